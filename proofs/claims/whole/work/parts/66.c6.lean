/-! packed numbers, four bits a thing; what a cut does in all ends -/
def pkd (w : Nat → Nat) : List Nat → Nat
  | [] => 0
  | t :: r => w t + 16 * pkd w r
theorem pkd_add {u v : Nat → Nat} : ∀ r, pkd (fun t => u t + v t) r = pkd u r + pkd v r
  | [] => rfl
  | t :: r => by
    show u t + v t + 16 * pkd (fun t => u t + v t) r = u t + 16 * pkd u r + (v t + 16 * pkd v r)
    rw [pkd_add r]
    omega
theorem pkd_cg {u v : Nat → Nat} : ∀ r, (∀ t ∈ r, u t = v t) → pkd u r = pkd v r
  | [], _ => rfl
  | t :: r, h => by
    show u t + 16 * pkd u r = v t + 16 * pkd v r
    rw [h t List.mem_cons_self, pkd_cg r (fun x hx => h x (List.mem_cons_of_mem _ hx))]
theorem pkd_mul {m : Nat} : ∀ r, m * pkd (fun _ => 1) r = pkd (fun _ => m) r
  | [] => rfl
  | t :: r => by
    show m * (1 + 16 * pkd (fun _ => 1) r) = m + 16 * pkd (fun _ => m) r
    rw [← pkd_mul (m := m) r, Nat.mul_add, Nat.mul_one]
    congr 1
    exact Nat.mul_left_comm _ _ _
theorem pkd_lt {u : Nat → Nat} : ∀ r, (∀ t ∈ r, u t ≤ 15) → pkd u r < 16 ^ r.length
  | [], _ => by show 0 < 1; omega
  | t :: r, h => by
    have h1 := pkd_lt r (fun x hx => h x (List.mem_cons_of_mem _ hx))
    have h2 := h t List.mem_cons_self
    show u t + 16 * pkd u r < 16 ^ (r.length + 1)
    rw [Nat.pow_succ]
    omega
theorem pkd_lt4 {u : Nat → Nat} {r : List Nat} (h4 : r.length ≤ 4) (h : ∀ t ∈ r, u t ≤ 15) : pkd u r < 65536 := by
  have h1 := pkd_lt r h
  have h2 : 16 ^ r.length ≤ 16 ^ 4 := Nat.pow_le_pow_right (by decide) h4
  have h3 : 16 ^ 4 = 65536 := by decide
  omega
theorem pkd_inj {u v : Nat → Nat} : ∀ r, (∀ t ∈ r, u t ≤ 15) → (∀ t ∈ r, v t ≤ 15) → pkd u r = pkd v r → ∀ t ∈ r, u t = v t
  | [], _, _, _, _, ht => by cases ht
  | a :: r, h1, h2, h, t, ht => by
    have e : u a + 16 * pkd u r = v a + 16 * pkd v r := h
    have b1 := h1 a List.mem_cons_self
    have b2 := h2 a List.mem_cons_self
    rcases List.mem_cons.mp ht with q | q
    · subst q; omega
    · exact pkd_inj r (fun x hx => h1 x (List.mem_cons_of_mem _ hx)) (fun x hx => h2 x (List.mem_cons_of_mem _ hx)) (by omega) t q
theorem pkd_sub {u v : Nat → Nat} (r : List Nat) (h : ∀ t ∈ r, v t ≤ u t) : pkd u r - pkd v r = pkd (fun t => u t - v t) r ∧ pkd v r ≤ pkd u r := by
  have e : pkd (fun t => v t + (u t - v t)) r = pkd u r := pkd_cg r (fun t ht => by have := h t ht; omega)
  rw [pkd_add (u := v) (v := fun t => u t - v t)] at e
  omega
theorem pk_sh (a x y z : Nat) : a + x * z + y * (16 * z) = a + (x + 16 * y) * z := by
  have e : y * (16 * z) = 16 * y * z := by ac_rfl
  rw [e, Nat.add_mul, Nat.add_assoc]
theorem nib_pk {u : Nat → Nat} {n k t : Nat} {r : List Nat} (h : n / 2 ^ (4 * k) = pkd u (t :: r)) (ht : u t ≤ 15) : nib n k = u t ∧ n / 2 ^ (4 * (k + 1)) = pkd u r := by
  have h : n / 2 ^ (4 * k) = u t + 16 * pkd u r := h
  refine ⟨?_, ?_⟩
  · unfold nib; rw [h]; omega
  · rw [p16_s, Nat.mul_comm, ← Nat.div_div_eq_div_mul, h]; omega
theorem leftG_some {S : ST} {n more : Nat} {u : Nat → Nat} : ∀ (r : List Nat) (k acc : Nat), n / 2 ^ (4 * k) = pkd u r → (∀ t ∈ r, u t ≤ 15) → (∀ t ∈ r, u t + more < esN S t) → leftG S n more r k acc = some (acc + pkd (fun t => esN S t - u t - more) r * 2 ^ (4 * k))
  | [], k, acc, _, _, _ => by simp [leftG, pkd]
  | t :: r, k, acc, e, hu, h => by
    obtain ⟨n1, n2⟩ := nib_pk e (hu t List.mem_cons_self)
    unfold leftG
    rw [n1, if_pos (h t List.mem_cons_self), leftG_some r (k + 1) _ n2 (fun x hx => hu x (List.mem_cons_of_mem _ hx)) (fun x hx => h x (List.mem_cons_of_mem _ hx)), p16_s, pk_sh]
    rfl
theorem leftG_none {S : ST} {n more : Nat} {u : Nat → Nat} : ∀ (r : List Nat) (k acc : Nat), n / 2 ^ (4 * k) = pkd u r → (∀ t ∈ r, u t ≤ 15) → ¬ (∀ t ∈ r, u t + more < esN S t) → leftG S n more r k acc = none
  | [], k, acc, _, _, h => absurd (fun t ht => by cases ht) h
  | t :: r, k, acc, e, hu, h => by
    obtain ⟨n1, n2⟩ := nib_pk e (hu t List.mem_cons_self)
    unfold leftG
    by_cases c : u t + more < esN S t
    · rw [n1, if_pos c]
      exact leftG_none r (k + 1) _ n2 (fun x hx => hu x (List.mem_cons_of_mem _ hx)) (fun q => h (fun x hx => by
        rcases List.mem_cons.mp hx with z | z
        · subst z; exact c
        · exact q x z))
    · rw [n1, if_neg c]
theorem allG_pk {S : ST} {n : Nat} {u : Nat → Nat} : ∀ (r : List Nat) (k : Nat), n / 2 ^ (4 * k) = pkd u r → (∀ t ∈ r, u t ≤ 15) → (allG S n r k = true ↔ ∀ t ∈ r, u t = esN S t)
  | [], k, _, _ => ⟨fun _ t ht => (by cases ht), fun _ => rfl⟩
  | t :: r, k, e, hu => by
    obtain ⟨n1, n2⟩ := nib_pk e (hu t List.mem_cons_self)
    have ih := allG_pk (S := S) r (k + 1) n2 (fun x hx => hu x (List.mem_cons_of_mem _ hx))
    unfold allG
    rw [Bool.and_eq_true, ih, n1, decide_eq_true_eq]
    refine ⟨fun q x hx => ?_, fun q => ⟨q t List.mem_cons_self, fun x hx => q x (List.mem_cons_of_mem _ hx)⟩⟩
    rcases List.mem_cons.mp hx with z | z
    · subst z; exact q.1
    · exact q.2 x z
theorem onG_pk {m : Nat} : ∀ (r : List Nat) (k acc : Nat), onG m r k acc = acc + pkd (fun _ => m) r * 2 ^ (4 * k)
  | [], k, acc => by simp [onG, pkd]
  | t :: r, k, acc => by
    unfold onG
    rw [onG_pk r (k + 1), p16_s, pk_sh]
    rfl
theorem ftG_iff {S : ST} {m : Nat} : ∀ (r : List Nat) (b : Bool), ftG S m r b = true ↔ b = true ∧ ∀ t ∈ r, m ≤ esN S t
  | [], b => ⟨fun h => ⟨h, fun t ht => by cases ht⟩, fun h => h.1⟩
  | t :: r, b => by
    unfold ftG
    rw [ftG_iff r, Bool.and_eq_true, decide_eq_true_eq]
    refine ⟨fun q => ⟨q.1.1, fun x hx => ?_⟩, fun q => ⟨⟨q.1, q.2 t List.mem_cons_self⟩, fun x hx => q.2 x (List.mem_cons_of_mem _ hx)⟩⟩
    rcases List.mem_cons.mp hx with z | z
    · subst z; exact q.1.2
    · exact q.2 x z
theorem bkG_pk {S : ST} {m : Nat} : ∀ (r : List Nat) (k acc : Nat), (∀ t ∈ r, m ≤ esN S t) → bkG S m r k true acc = acc + pkd (fun t => esN S t - m) r * 2 ^ (4 * k)
  | [], k, acc, _ => by simp [bkG, pkd]
  | t :: r, k, acc, h => by
    have h1 := h t List.mem_cons_self
    have e : (true && decide (m ≤ esN S t)) = true := by simp [h1]
    unfold bkG
    rw [e, if_pos rfl, bkG_pk r (k + 1) _ (fun x hx => h x (List.mem_cons_of_mem _ hx)), p16_s, pk_sh]
    rfl
/-- the piece p stands at the end's beginning (bh: at its close) -/
def okT (S : ST) (p : Nat) (bh : Bool) (t : Nat) : Prop := ∃ o, pcL (lnB S t) (szN S t) p = some o ∧ stB (enB S t) (esN S t) o (if bh = true then (esN S t : Int) - o.length else 0) = true
def wlN (S : ST) (p t : Nat) : Nat := ((pcL (lnB S t) (szN S t) p).getD []).length
theorem longG_some {S : ST} {p : Nat} {bh : Bool} : ∀ (r : List Nat) (k acc : Nat), (∀ t ∈ r, okT S p bh t) → longG S p bh r k acc = some (acc + pkd (wlN S p) r * 2 ^ (4 * k))
  | [], k, acc, _ => by simp [longG, pkd]
  | t :: r, k, acc, h => by
    obtain ⟨o, h1, h2⟩ := h t List.mem_cons_self
    rw [longG_t h1 rfl h2, longG_some r (k + 1) _ (fun x hx => h x (List.mem_cons_of_mem _ hx)), p16_s, pk_sh]
    have e : wlN S p t = o.length := by unfold wlN; rw [h1]; rfl
    rw [← e]
    rfl
theorem longG_none {S : ST} {p : Nat} {bh : Bool} : ∀ (r : List Nat) (k acc : Nat), ¬ (∀ t ∈ r, okT S p bh t) → longG S p bh r k acc = none
  | [], k, acc, h => absurd (fun t ht => by cases ht) h
  | t :: r, k, acc, h => by
    rcases h1 : pcL (lnB S t) (szN S t) p with _ | o
    · exact longG_n h1
    · by_cases h2 : stB (enB S t) (esN S t) o (if bh = true then (esN S t : Int) - o.length else 0) = true
      · rw [longG_t h1 rfl h2]
        exact longG_none r (k + 1) _ (fun q => h (fun x hx => by
          rcases List.mem_cons.mp hx with z | z
          · subst z; exact ⟨o, h1, h2⟩
          · exact q x z))
      · exact longG_f h1 rfl (by simpa using h2)
theorem longF_some {S : ST} {p : Nat} {bh : Bool} {ts : List Nat} (h : ∀ t ∈ ts, okT S p bh t) : longF S ts p bh = some (pkd (wlN S p) ts) := by
  unfold longF
  rw [longG_some ts 0 0 h]
  simp
theorem longF_none {S : ST} {p : Nat} {bh : Bool} {ts : List Nat} (h : ¬ ∀ t ∈ ts, okT S p bh t) : longF S ts p bh = none := longG_none ts 0 0 h
theorem stG_iff {e : Nat → Int32} {o : List Int32} {p : Nat} : ∀ d i, stG e o p d i = true ↔ ∀ j, i ≤ j → j < i + d → o.getD j 0 = e (p + j)
  | 0, i => ⟨fun _ j h1 h2 => by omega, fun _ => rfl⟩
  | d + 1, i => by
    unfold stG
    rw [Bool.and_eq_true, stG_iff d (i + 1), decide_eq_true_eq, Int32.toInt_inj]
    refine ⟨fun h j h1 h2 => ?_, fun h => ⟨h i (Nat.le_refl _) (by omega), fun j h1 h2 => h j (by omega) (by omega)⟩⟩
    by_cases q : j = i
    · subst q; exact h.1
    · exact h.2 j (by omega) (by omega)
theorem stB_iff {e : Nat → Int32} {o : List Int32} {m p : Nat} : stB e m o (p : Int) = true ↔ p + o.length ≤ m ∧ ∀ j, j < o.length → o.getD j 0 = e (p + j) := by
  unfold stB
  rw [Bool.and_eq_true, decide_eq_true_eq, stG_iff, show ((p : Int)).toNat = p from rfl]
  refine ⟨fun h => ⟨by omega, fun j hj => h.2 j (by omega) (by omega)⟩, fun h => ⟨by omega, fun j _ h2 => h.2 j (by omega)⟩⟩
theorem cutF_at {b : Nat → Int32} {tn : Nat} : ∀ d i j, j < d → (cutF b tn d i).getD j 0 = turnI tn (b (i + j))
  | 0, i, j, h => by omega
  | d + 1, i, 0, h => by simp [cutF]
  | d + 1, i, j + 1, h => by
    have := cutF_at (b := b) (tn := tn) d (i + 1) j (by omega)
    unfold cutF
    rw [List.getD_cons_succ, this, show i + 1 + j = i + (j + 1) by omega]
/-- the bit i of the span of two places -/
def bitT (S : ST) (f g i t : Nat) : Prop := ∃ x y, pl (lnB S t) (szN S t) f = some x ∧ pl (lnB S t) (szN S t) g = some y ∧ cmpP (lnB S t) (szN S t) (enB S t) (esN S t) 3 0 i x y
def wdN (S : ST) (f g t : Nat) : Nat := (pl (lnB S t) (szN S t) g).getD 0 - (pl (lnB S t) (szN S t) f).getD 0
theorem cmp3 {b e : Nat → Int32} {n m i x y : Nat} (hi : i < 6) : cmpP b n e m 3 0 i x y ↔ if i < 3 then begP b n e m i x y else cloP b n e m (i - 3) x y := by
  unfold cmpP
  by_cases h : i < 3
  · rw [if_pos h]
    exact ⟨fun q => (by rcases q with q | q; exact q.2.2; omega), fun q => Or.inl ⟨h, Or.inl h, q⟩⟩
  · rw [if_neg h]
    exact ⟨fun q => (by rcases q with q | q; omega; exact q.2.2), fun q => Or.inr ⟨by omega, Or.inl (by omega), q⟩⟩
theorem cut_ok {S : ST} {f g tn t : Nat} {bh : Bool} (hf : f < 40) (hg : g < 40) (htn : tn < 3) : okT S (120 * f + 3 * g + tn) bh t ↔ bitT S f g (if bh = true then 3 + tn else tn) t := by
  have hc : 120 * f + 3 * g + tn < 4800 := by omega
  have e1 : (120 * f + 3 * g + tn) / 120 = f := by omega
  have e2 : (120 * f + 3 * g + tn) / 3 % 40 = g := by omega
  have e3 : (120 * f + 3 * g + tn) % 3 = tn := by omega
  unfold okT bitT
  rcases hx : pl (lnB S t) (szN S t) f with _ | x
  · rw [pcL_n1 hc (by rw [e1]; exact hx)]
    exact ⟨fun ⟨o, q, _⟩ => (by cases q), fun ⟨x, y, q, _⟩ => (by cases q)⟩
  · rcases hy : pl (lnB S t) (szN S t) g with _ | y
    · rw [pcL_n2 hc (by rw [e1]; exact hx) (by rw [e2]; exact hy)]
      exact ⟨fun ⟨o, q, _⟩ => (by cases q), fun ⟨x, y, _, q, _⟩ => (by cases q)⟩
    · have hyn := pl_le hy
      rw [pcL_cut hc (by rw [e1]; exact hx) (by rw [e2]; exact hy), e3]
      have hl : (cutF (lnB S t) tn (y - x) x).length = y - x := cutF_len _ _ _ _
      have hat := fun j => cutF_at (b := lnB S t) (tn := tn) (y - x) x j
      constructor
      · rintro ⟨o, q1, q2⟩
        refine ⟨x, y, rfl, rfl, ?_⟩
        by_cases hxy : x < y
        · rw [if_pos hxy] at q1
          cases q1
          cases bh with
          | false =>
            rw [cmp3 (by simp; omega)]
            have q2 := stB_iff (p := 0).mp q2
            rw [hl] at q2
            simp only [Bool.false_eq_true, if_false, htn, if_true]
            refine ⟨hxy, hyn, by omega, fun j hj => ?_⟩
            have := q2.2 j hj
            rw [hat j hj, Nat.zero_add] at this
            exact this
          | true =>
            rw [cmp3 (by simp; omega)]
            have q0 := stB_len q2
            simp only [if_true] at q0 q2
            rw [hl] at q0 q2
            rw [show ((esN S t : Int) - ((y - x : Nat) : Int)) = ((esN S t - (y - x) : Nat) : Int) by omega] at q2
            have q2 := stB_iff.mp q2
            rw [hl] at q2
            simp only [if_true]
            rw [if_neg (by omega), show 3 + tn - 3 = tn by omega]
            refine ⟨hxy, hyn, by omega, fun j h1 h2 => ?_⟩
            have := q2.2 (y - x - j) (by omega)
            rw [hat _ (by omega), show x + (y - x - j) = y - j by omega, show esN S t - (y - x) + (y - x - j) = esN S t - j by omega] at this
            exact this
        · rw [if_neg hxy] at q1
          cases q1
      · rintro ⟨x', y', q1, q2, q3⟩
        cases q1
        cases q2
        rw [cmp3 (by split <;> omega)] at q3
        cases bh with
        | false =>
          simp only [Bool.false_eq_true, if_false, htn, if_true] at q3 ⊢
          rw [if_pos q3.1]
          refine ⟨_, rfl, stB_iff (p := 0).mpr ⟨by rw [hl]; have := q3.2.2.1; omega, fun j hj => ?_⟩⟩
          rw [hl] at hj
          rw [hat j hj, Nat.zero_add]
          exact q3.2.2.2 j hj
        | true =>
          simp only [if_true] at q3 ⊢
          rw [if_neg (by omega), show 3 + tn - 3 = tn by omega] at q3
          rw [if_pos q3.1]
          refine ⟨_, rfl, ?_⟩
          have := q3.2.2.1
          rw [hl, show ((esN S t : Int) - ((y - x : Nat) : Int)) = ((esN S t - (y - x) : Nat) : Int) by omega]
          refine stB_iff.mpr ⟨by rw [hl]; omega, fun j hj => ?_⟩
          rw [hl] at hj
          have h4 := q3.2.2.2 (y - x - j) (by omega) (by omega)
          rw [show y - (y - x - j) = x + j by omega, show esN S t - (y - x - j) = esN S t - (y - x) + j by omega] at h4
          rw [hat j hj]
          exact h4
theorem cut_wl {S : ST} {f g i tn t : Nat} (hf : f < 40) (hg : g < 40) (htn : tn < 3) (hi : i < 6) (h : bitT S f g i t) : wlN S (120 * f + 3 * g + tn) t = wdN S f g t ∧ 1 ≤ wdN S f g t ∧ wdN S f g t ≤ esN S t := by
  have hc : 120 * f + 3 * g + tn < 4800 := by omega
  have e1 : (120 * f + 3 * g + tn) / 120 = f := by omega
  have e2 : (120 * f + 3 * g + tn) / 3 % 40 = g := by omega
  obtain ⟨x, y, hx, hy, h⟩ := h
  have hw : wdN S f g t = y - x := by unfold wdN; rw [hx, hy]; rfl
  rw [cmp3 hi] at h
  have hxy : x < y ∧ y - x ≤ esN S t := by
    split at h
    · exact ⟨h.1, h.2.2.1⟩
    · exact ⟨h.1, h.2.2.1⟩
  unfold wlN
  rw [hw, pcL_cut hc (by rw [e1]; exact hx) (by rw [e2]; exact hy), if_pos hxy.1]
  exact ⟨cutF_len _ _ _ _, by omega, hxy.2⟩
/-- a cut in all ends -/
theorem cutL_some {S : ST} {f g tn : Nat} {bh : Bool} {ts : List Nat} (hf : f < 40) (hg : g < 40) (htn : tn < 3) (h : ∀ t ∈ ts, bitT S f g (if bh = true then 3 + tn else tn) t) : longF S ts (120 * f + 3 * g + tn) bh = some (pkd (wdN S f g) ts) := by
  rw [longF_some (fun t ht => (cut_ok hf hg htn).mpr (h t ht))]
  congr 1
  exact pkd_cg ts (fun t ht => (cut_wl hf hg htn (by split <;> omega) (h t ht)).1)
theorem cutL_none {S : ST} {f g tn : Nat} {bh : Bool} {ts : List Nat} (hf : f < 40) (hg : g < 40) (htn : tn < 3) (h : ¬ ∀ t ∈ ts, bitT S f g (if bh = true then 3 + tn else tn) t) : longF S ts (120 * f + 3 * g + tn) bh = none :=
  longF_none (fun q => h (fun t ht => (cut_ok hf hg htn).mp (q t ht)))
