/-! what is fitting hangs on the shown things' lines and ends alone -/
theorem isKd_cg {b b' : Nat → Int32} {n k i : Nat} (h : ∀ j, j < n → b j = b' j) (hi : i < n) : isKd k (b i) = isKd k (b' i) := by rw [h i hi]
theorem rend_cg {b b' : Nat → Int32} {n k : Nat} (h : ∀ j, j < n → b j = b' j) : ∀ f i, rend b n k f i = rend b' n k f i
  | 0, _ => rfl
  | f + 1, i => by
    unfold rend
    by_cases hi : i < n
    · rw [isKd_cg h hi, rend_cg h f (i + 1)]
    · rw [if_neg (fun q => hi q.1), if_neg (fun q => hi q.1)]
theorem rnx_cg {b b' : Nat → Int32} {n k i : Nat} (h : ∀ j, j < n → b j = b' j) : rnx b n k i = rnx b' n k i := by unfold rnx; rw [rend_cg h]
theorem runsG_cg {b b' : Nat → Int32} {n k : Nat} (h : ∀ j, j < n → b j = b' j) : ∀ f i, runsG b n k f i = runsG b' n k f i
  | 0, _ => rfl
  | f + 1, i => by
    unfold runsG
    by_cases hi : i < n
    · rw [isKd_cg h hi, rnx_cg h, runsG_cg h f (rnx b' n k i), runsG_cg h f (i + 1)]
    · rw [if_neg hi, if_neg hi]
theorem pl_cg {b b' : Nat → Int32} {n p : Nat} (h : ∀ j, j < n → b j = b' j) : pl b n p = pl b' n p := by
  unfold pl runs
  rw [runsG_cg h]
theorem cutF_cg {b b' : Nat → Int32} {n tn : Nat} (h : ∀ j, j < n → b j = b' j) : ∀ d i, i + d ≤ n → cutF b tn d i = cutF b' tn d i
  | 0, _, _ => rfl
  | d + 1, i, hi => by
    unfold cutF
    rw [h i (by omega), cutF_cg h d (i + 1) (by omega)]
theorem pcL_cg {b b' : Nat → Int32} {n p : Nat} (h : ∀ j, j < n → b j = b' j) : pcL b n p = pcL b' n p := by
  unfold pcL
  rw [pl_cg h, pl_cg h]
  split
  · rfl
  · rcases e1 : pl b' n (p / 120) with _ | f
    · rfl
    · rcases e2 : pl b' n (p / 3 % 40) with _ | t
      · rfl
      · have := pl_le e2
        dsimp only
        split
        · rw [cutF_cg h (t - f) f (by omega)]
        · rfl
theorem stB_cg {e e' : Nat → Int32} {m : Nat} {o : List Int32} {p : Int} (h : ∀ j, j < m → e j = e' j) : stB e m o p = stB e' m o p := by
  unfold stB
  by_cases hp : 0 ≤ p ∧ p + o.length ≤ m
  · congr 1
    rw [Bool.eq_iff_iff, stG_iff, stG_iff]
    constructor
    · exact fun q j h1 h2 => by rw [q j h1 h2, h _ (by omega)]
    · exact fun q j h1 h2 => by rw [q j h1 h2, h _ (by omega)]
  · rw [decide_eq_false hp, Bool.false_and, Bool.false_and]
/-- S and S' say the same of the things ts -/
def SpT (S S' : ST) (ts : List Nat) : Prop := ∀ t ∈ ts, szN S' t = szN S t ∧ esN S' t = esN S t ∧ (∀ j, j < szN S t → lnB S t j = lnB S' t j) ∧ ∀ j, j < esN S t → enB S t j = enB S' t j
theorem SpT.cons {S S' : ST} {t : Nat} {r : List Nat} (h : SpT S S' (t :: r)) : SpT S S' r := fun x hx => h x (List.mem_cons_of_mem _ hx)
theorem SpT.rf {S : ST} {ts : List Nat} : SpT S S ts := fun _ _ => ⟨rfl, rfl, fun _ _ => rfl, fun _ _ => rfl⟩
theorem SpT.tr {S S1 S2 : ST} {ts : List Nat} (h1 : SpT S S1 ts) (h2 : SpT S1 S2 ts) : SpT S S2 ts := fun t ht => by
  obtain ⟨a1, a2, a3, a4⟩ := h1 t ht
  obtain ⟨b1, b2, b3, b4⟩ := h2 t ht
  exact ⟨b1.trans a1, b2.trans a2, fun j hj => (a3 j hj).trans (b3 j (by omega)), fun j hj => (a4 j hj).trans (b4 j (by omega))⟩
theorem SpT.sub {S S' : ST} {ts us : List Nat} (h : SpT S S' ts) (hu : ∀ t ∈ us, t ∈ ts) : SpT S S' us := fun t ht => h t (hu t ht)
theorem longG_t2 {S S' : ST} {p : Nat} {bh : Bool} : ∀ (r : List Nat) (k acc : Nat), SpT S S' r → longG S' p bh r k acc = longG S p bh r k acc
  | [], _, _, _ => rfl
  | t :: r, k, acc, h => by
    obtain ⟨a1, a2, a3, a4⟩ := h t List.mem_cons_self
    unfold longG
    rw [a1, a2, ← pcL_cg a3]
    rcases pcL (lnB S t) (szN S t) p with _ | o
    · rfl
    · dsimp only
      rw [← stB_cg a4, longG_t2 r (k + 1) _ h.cons]
theorem typN_t {S S' : ST} {t f : Nat} : ∀ (d i acc : Nat), (∀ j, j < f + i + d → enB S t j = enB S' t j) → typN S' t f d i acc = typN S t f d i acc
  | 0, _, _, _ => rfl
  | d + 1, i, acc, h => by
    unfold typN
    rw [h (f + i) (by omega), typN_t d (i + 1) _ (fun j hj => h j (by omega))]
theorem typG_t {S S' : ST} {n q : Nat} : ∀ (r : List Nat) (k f : Nat), SpT S S' r → typG S' n q r k f = typG S n q r k f
  | [], _, _, _ => rfl
  | t :: r, k, f, h => by
    obtain ⟨a1, a2, a3, a4⟩ := h t List.mem_cons_self
    unfold typG
    rw [a2]
    by_cases c : nib n k + q ≤ esN S t
    · rw [if_pos c, if_pos c, typN_t q 0 _ (fun j hj => a4 j (by omega)), typG_t r (k + 1) _ h.cons]
    · rw [if_neg c, if_neg c]
theorem allG_t {S S' : ST} {n : Nat} : ∀ (r : List Nat) (k : Nat), SpT S S' r → allG S' n r k = allG S n r k
  | [], _, _ => rfl
  | t :: r, k, h => by unfold allG; rw [(h t List.mem_cons_self).2.1, allG_t r (k + 1) h.cons]
theorem leftG_t {S S' : ST} {n m : Nat} : ∀ (r : List Nat) (k acc : Nat), SpT S S' r → leftG S' n m r k acc = leftG S n m r k acc
  | [], _, _, _ => rfl
  | t :: r, k, acc, h => by unfold leftG; rw [(h t List.mem_cons_self).2.1, leftG_t r (k + 1) _ h.cons]
theorem ftG_t {S S' : ST} {m : Nat} : ∀ (r : List Nat) (b : Bool), SpT S S' r → ftG S' m r b = ftG S m r b
  | [], _, _ => rfl
  | t :: r, b, h => by unfold ftG; rw [(h t List.mem_cons_self).2.1, ftG_t r _ h.cons]
theorem bkG_t {S S' : ST} {m : Nat} : ∀ (r : List Nat) (k : Nat) (b : Bool) (acc : Nat), SpT S S' r → bkG S' m r k b acc = bkG S m r k b acc
  | [], _, _, _, _ => rfl
  | t :: r, k, b, acc, h => by unfold bkG; rw [(h t List.mem_cons_self).2.1, bkG_t r (k + 1) _ _ h.cons]
section CG
variable {S S' : ST} {ts : List Nat}
theorem pcF_t (h : SpT S S' ts) (bh : Bool) : ∀ c, pcF S' ts bh c = pcF S ts bh c
  | 0 => rfl
  | c + 1 => by unfold pcF longF; rw [longG_t2 ts 0 0 h, pcF_t h bh c]
theorem tyF_t (h : SpT S S' ts) (m : Nat) : tyF S' ts m = tyF S ts m := by unfold tyF; rw [ftG_t ts true h, typG_t ts 0 0 h]
theorem tyB_t (h : SpT S S' ts) (m : Nat) : tyB S' ts m = tyB S ts m := by unfold tyB; rw [ftG_t ts true h, bkG_t ts 0 true 0 h, typG_t ts 0 0 h]
theorem frT_t (h : SpT S S' ts) : ∀ d m F, frT S' ts d m F = frT S ts d m F
  | 0, _, _ => rfl
  | d + 1, m, F => by unfold frT; rw [tyF_t h, frT_t h d]
theorem bhT_t (h : SpT S S' ts) : ∀ d m F, bhT S' ts d m F = bhT S ts d m F
  | 0, _, _ => rfl
  | d + 1, m, F => by unfold bhT; rw [tyB_t h, bhT_t h d]
theorem frA_t (h : SpT S S' ts) : frA S' ts = frA S ts := by unfold frA; rw [pcF_t h, frT_t h]
theorem bhA_t (h : SpT S S' ts) : bhA S' ts = bhA S ts := by unfold bhA; rw [pcF_t h, bhT_t h]
theorem fT3_t (h : SpT S S' ts) (B : List (Nat × Nat)) (L m : Nat) : fT3 S' ts B L m = fT3 S ts B L m := by unfold fT3; rw [leftG_t ts 0 0 h, typG_t ts 0 0 h]
theorem fT_t (h : SpT S S' ts) (B : List (Nat × Nat)) (n L : Nat) : fT S' ts B n L = fT S ts B n L := by unfold fT; rw [leftG_t ts 0 0 h, allG_t ts 0 h, fT3_t h, fT3_t h, fT3_t h]
theorem fitN_t (h : SpT S S' ts) (n : Nat) : fitN S' ts n = fitN S ts n := by
  rw [fitN_sum, fitN_sum, frA_t h, bhA_t h]
  exact sumL_cg _ (fun q _ => fT_t h _ _ _)
theorem oneF_t (h : SpT S S' ts) (F : List (Nat × Nat)) (c : Nat) : ∀ d f, oneF S' ts F c d f = oneF S ts F c d f
  | 0, _ => rfl
  | d + 1, f => by unfold oneF; rw [allG_t ts 0 h, oneF_t h F c d (f + 1)]
theorem two1_t (h : SpT S S' ts) (F B : List (Nat × Nat)) (c f : Nat) : two1 S' ts F B c f = two1 S ts F B c f := by unfold two1; rw [leftG_t ts 0 0 h]
theorem twoF_t (h : SpT S S' ts) (F B : List (Nat × Nat)) (c : Nat) : ∀ d f, twoF S' ts F B c d f = twoF S ts F B c d f
  | 0, _ => rfl
  | d + 1, f => by unfold twoF; rw [two1_t h, twoF_t h F B c d (f + 1)]
theorem thr1_t (h : SpT S S' ts) (F B : List (Nat × Nat)) (c f m : Nat) : thr1 S' ts F B c f m = thr1 S ts F B c f m := by unfold thr1; rw [leftG_t ts 0 0 h, typG_t ts 0 0 h]
theorem thrM_t (h : SpT S S' ts) (F B : List (Nat × Nat)) (c f : Nat) : ∀ d m, thrM S' ts F B c f d m = thrM S ts F B c f d m
  | 0, _ => rfl
  | d + 1, m => by unfold thrM; rw [thr1_t h, thrM_t h F B c f d (m + 1)]
theorem thrF_t (h : SpT S S' ts) (F B : List (Nat × Nat)) (c : Nat) : ∀ d f, thrF S' ts F B c d f = thrF S ts F B c d f
  | 0, _ => rfl
  | d + 1, f => by unfold thrF; rw [thrM_t h, thrF_t h F B c d (f + 1)]
theorem cstF_t (h : SpT S S' ts) (F B : List (Nat × Nat)) : ∀ d c, cstF S' ts F B d c = cstF S ts F B d c
  | 0, _ => rfl
  | d + 1, c => by unfold cstF; rw [oneF_t h, twoF_t h, thrF_t h, cstF_t h F B d (c + 1)]
theorem neA_t (h : SpT S S' ts) : neA S' ts = neA S ts := by unfold neA; rw [frA_t h, bhA_t h, cstF_t h]
end CG
/-! which things are shown -/
def shw (S : ST) (t : Nat) : Bool := decide (t < thN S ∧ stN S t = 1)
def shR (S : ST) (but : Nat) : Nat → Nat → List Nat
  | 0, _ => []
  | d + 1, t => if shw S t = true ∧ but / 2 ^ t % 2 = 0 then t :: shR S but d (t + 1) else shR S but d (t + 1)
theorem shR_out {S : ST} {but : Nat} : ∀ d t, thN S ≤ t → shR S but d t = []
  | 0, _, _ => rfl
  | d + 1, t, h => by
    unfold shR
    rw [if_neg (by unfold shw; rw [decide_eq_true_eq]; omega), shR_out d (t + 1) (by omega)]
theorem shF_R {S : ST} {but : Nat} : ∀ d e t, t + d = thN S → d ≤ e → shF S but d t = shR S but e t
  | 0, e, t, h, _ => by rw [shR_out e t (by omega)]; rfl
  | d + 1, 0, _, _, h => by omega
  | d + 1, e + 1, t, h, h2 => by
    have ih := shF_R (S := S) (but := but) d e (t + 1) (by omega) (by omega)
    unfold shF shR shw
    rw [ih]
    by_cases c : stN S t = 1 ∧ but / 2 ^ t % 2 = 0
    · rw [if_pos c, if_pos ⟨decide_eq_true ⟨by omega, c.1⟩, c.2⟩]
    · rw [if_neg c, if_neg (fun q => c ⟨(of_decide_eq_true q.1).2, q.2⟩)]
theorem shL_R {S : ST} {but : Nat} (h : thN S ≤ 12) : shL S but = shR S but 12 0 := shF_R _ 12 0 (by omega) h
theorem shR_cg {S S' : ST} {but : Nat} (h : ∀ t, t < 12 → shw S' t = shw S t) : ∀ d t, t + d ≤ 12 → shR S' but d t = shR S but d t
  | 0, _, _ => rfl
  | d + 1, t, hd => by unfold shR; rw [h t (by omega), shR_cg h d (t + 1) (by omega)]
theorem shL_cg {S S' : ST} {but : Nat} (h : ∀ t, t < 12 → shw S' t = shw S t) (h1 : thN S ≤ 12) (h2 : thN S' ≤ 12) : shL S' but = shL S but := by
  rw [shL_R h1, shL_R h2, shR_cg h 12 0 (by omega)]
def alR (S : ST) : Nat → Nat
  | 0 => 0
  | t + 1 => alR S t + (if shw S t = true then 1 else 0) * 2 ^ t
theorem alR_eq {S : ST} : ∀ t, t ≤ thN S → alB S t = alR S t
  | 0, _ => rfl
  | t + 1, h => by
    unfold alB alR shw
    rw [alR_eq t (by omega)]
    by_cases c : stN S t = 1
    · rw [if_pos c, if_pos (decide_eq_true ⟨by omega, c⟩)]
    · rw [if_neg c, if_neg (fun q => c (of_decide_eq_true q).2)]
theorem alR_out {S : ST} : ∀ d t, thN S ≤ t → alR S (t + d) = alR S t
  | 0, _, _ => rfl
  | d + 1, t, h => by
    show alR S (t + d) + (if shw S (t + d) = true then 1 else 0) * 2 ^ (t + d) = _
    rw [if_neg (by unfold shw; rw [decide_eq_true_eq]; omega), Nat.zero_mul, Nat.add_zero, alR_out d t h]
theorem alB_R {S : ST} (h : thN S ≤ 12) : alB S (thN S) = alR S 12 := by
  have := alR_out (S := S) (12 - thN S) (thN S) (Nat.le_refl _)
  rw [show thN S + (12 - thN S) = 12 by omega] at this
  rw [this, alR_eq _ (Nat.le_refl _)]
theorem alR_cg {S S' : ST} (h : ∀ t, t < 12 → shw S' t = shw S t) : ∀ t, t ≤ 12 → alR S' t = alR S t
  | 0, _ => rfl
  | t + 1, ht => by unfold alR; rw [h t (by omega), alR_cg h t (by omega)]
theorem shR_sub {S : ST} {but : Nat} : ∀ d t x, x ∈ shR S but d t → x ∈ shR S 0 d t
  | 0, _, _, h => by cases h
  | d + 1, t, x, h => by
    unfold shR at h ⊢
    by_cases c : shw S t = true ∧ but / 2 ^ t % 2 = 0
    · rw [if_pos c] at h
      rw [if_pos ⟨c.1, by simp⟩]
      rcases List.mem_cons.mp h with z | z
      · rw [z]; exact List.mem_cons_self
      · exact List.mem_cons_of_mem _ (shR_sub d (t + 1) x z)
    · rw [if_neg c] at h
      have := shR_sub d (t + 1) x h
      split
      · exact List.mem_cons_of_mem _ this
      · exact this
theorem ftB_t {S S' : ST} {but : Nat} (h : ∀ t, t < 12 → shw S' t = shw S t) (h1 : thN S ≤ 12) (h2 : thN S' ≤ 12) (hT : SpT S S' (shL S 0)) : ftB S' but = ftB S but := by
  have e : SpT S S' (shL S but) := hT.sub (fun t ht => by rw [shL_R h1] at ht ⊢; exact shR_sub 12 0 t ht)
  unfold ftB
  rw [shL_cg h h1 h2, fitN_t e, fitN_t e, fitN_t e]
theorem slG_t {S S' : ST} {all : Nat} (h : ∀ t, t < 12 → shw S' t = shw S t) (h1 : thN S ≤ 12) (h2 : thN S' ≤ 12) (hT : SpT S S' (shL S 0)) : ∀ d but b, slG S' all d but b = slG S all d but b
  | 0, _, _ => rfl
  | d + 1, but, b => by unfold slG; rw [ftB_t h h1 h2 hT, slG_t h h1 h2 hT d, slG_t h h1 h2 hT d]
theorem slips_t {S S' : ST} (h : ∀ t, t < 12 → shw S' t = shw S t) (h1 : thN S ≤ 12) (h2 : thN S' ≤ 12) (hT : SpT S S' (shL S 0)) : sp_slips S' = sp_slips S := by
  unfold sp_slips
  rw [alB_R h1, alB_R h2, alR_cg h 12 (by omega), slG_t h h1 h2 hT]
