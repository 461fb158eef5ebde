/-! small words for ints and truths -/
theorem bI_toInt {b : Bool} : (bI b).toInt = if b then 1 else 0 := by cases b <;> rfl
theorem lgc_lt {x y : Int64} : lg_cmp x y < 0 ↔ x.toInt < y.toInt := by
  unfold lg_cmp
  simp only [gt_iff_lt, Int64.lt_iff_toInt_lt, ← Int64.toInt_inj]
  repeat' split
  all_goals simp [Int32.lt_iff_toInt_lt] <;> omega
theorem lgc_gt {x y : Int64} : 0 < lg_cmp x y ↔ y.toInt < x.toInt := by
  unfold lg_cmp
  simp only [gt_iff_lt, Int64.lt_iff_toInt_lt, ← Int64.toInt_inj]
  repeat' split
  all_goals simp [Int32.lt_iff_toInt_lt] <;> omega
theorem lgc_eq {x y : Int64} : lg_cmp x y = 0 ↔ x.toInt = y.toInt := by
  unfold lg_cmp
  simp only [gt_iff_lt, Int64.lt_iff_toInt_lt, ← Int64.toInt_inj]
  repeat' split
  all_goals simp <;> omega
theorem lgc_le {x y : Int64} : lg_cmp x y ≤ 0 ↔ x.toInt ≤ y.toInt := by
  unfold lg_cmp
  simp only [gt_iff_lt, Int64.lt_iff_toInt_lt, ← Int64.toInt_inj]
  repeat' split
  all_goals simp [Int32.le_iff_toInt_le] <;> omega
theorem sub_toInt {a b : Int32} (h1 : -2147483648 ≤ a.toInt - b.toInt) (h2 : a.toInt - b.toInt < 2147483648) : (a - b).toInt = a.toInt - b.toInt := by
  rw [Int32.toInt_sub]
  exact Int.bmod_eq_of_le (by omega) (by omega)
theorem add_toInt {a b : Int32} (h1 : -2147483648 ≤ a.toInt + b.toInt) (h2 : a.toInt + b.toInt < 2147483648) : (a + b).toInt = a.toInt + b.toInt := by
  rw [Int32.toInt_add]
  exact Int.bmod_eq_of_le (by omega) (by omega)
theorem mul_toInt {a b : Int32} (h1 : -2147483648 ≤ a.toInt * b.toInt) (h2 : a.toInt * b.toInt < 2147483648) : (a * b).toInt = a.toInt * b.toInt := by
  rw [Int32.toInt_mul]
  exact Int.bmod_eq_of_le (by omega) (by omega)
/-- an int that isn't negative is a number -/
theorem nI_ofT {x : Int32} {n : Nat} (h : x.toInt = n) : x = nI n := by
  have h1 : n < 2147483648 := by have := x.toInt_lt; omega
  exact Int32.toInt_inj.mp (by rw [h, nIt h1])
theorem nI_clampT {x : Int32} {n : Nat} (h : x.toInt = n) : x.toNatClampNeg = n := by
  rw [nI_ofT h]
  exact nI_clamp (by have := x.toInt_lt; omega)
theorem in_T {x : Int32} {n : Nat} (h1 : 0 ≤ x.toInt) (h2 : x.toInt < n) : vp_in x n := vp_in_iff.mpr ⟨h1, h2⟩
theorem q_b {Q : Option AV → HM → Prop} {M : HM} {b c : Bool} (h : Q (some (aI (bI b))) M) (e : c = b) : Q (some (aI (bI c))) M := by rw [e]; exact h
theorem q_i {Q : Option AV → HM → Prop} {M : HM} {x y : Int32} (h : Q (some (aI x)) M) (e : y = x) : Q (some (aI y)) M := by rw [e]; exact h
theorem q_l {Q : Option AV → HM → Prop} {M : HM} {x y : Int64} (h : Q (some (aL x)) M) (e : y = x) : Q (some (aL y)) M := by rw [e]; exact h
theorem dec_b {p q : Prop} [Decidable p] [Decidable q] (h : p ↔ q) : decide p = decide q := decide_eq_decide.mpr h
theorem dec1 (x : Int32) : x + Int32.ofInt (-1) = x - nI 1 := by
  rw [Int32.sub_eq_add_neg]
  congr 1
