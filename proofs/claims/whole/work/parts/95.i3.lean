/-! a call on both: type, keep, text -/
theorem prL_of {S : ST} {a b : Nat} {ps : List Nat} (h : PrIs S a b ps) (hp : ∀ x ∈ ps, isPc x) : prL S a b = ps := by
  have z1 : (-1 : Int32).toInt = -1 := rfl
  have pos : ∀ x ∈ ps, ¬ (nI x).toInt < 0 ∧ (nI x).toNatClampNeg = x := fun x hx => by
    have := isPc_lt (hp x hx)
    exact ⟨by rw [nIt (by omega)]; omega, nI_clamp (by omega)⟩
  obtain ⟨h1, h2, h3⟩ := h
  unfold prL
  match ps, h1, h2, h3, pos with
  | [], _, _, h3, _ =>
    have e := h3 0 (by simp) (by omega)
    rw [Nat.add_zero] at e
    rw [e, z1, if_pos (by omega)]
  | [p], _, h2, h3, pos =>
    have e := h2 0 (by simp)
    have e1 := h3 1 (by simp) (by omega)
    have q := pos p (by simp)
    rw [Nat.add_zero] at e
    rw [e, e1, z1, if_pos (by omega : (-1 : Int) < 0)]
    show (if (nI p).toInt < 0 then _ else [(nI p).toNatClampNeg]) = _
    rw [if_neg q.1, q.2]
  | [p, r], _, h2, h3, pos =>
    have e := h2 0 (by simp)
    have e1 := h2 1 (by simp)
    have e2 := h3 2 (by simp) (by omega)
    have q := pos p (by simp)
    have q1 := pos r (by simp)
    rw [Nat.add_zero] at e
    rw [e, e1, e2, z1, if_pos (by omega : (-1 : Int) < 0)]
    show (if (nI p).toInt < 0 then _ else if (nI r).toInt < 0 then _ else [(nI p).toNatClampNeg, (nI r).toNatClampNeg]) = _
    rw [if_neg q.1, if_neg q1.1, q.2, q1.2]
  | [p, r, u], _, h2, h3, pos =>
    have e := h2 0 (by simp)
    have e1 := h2 1 (by simp)
    have e2 := h2 2 (by simp)
    have q := pos p (by simp)
    have q1 := pos r (by simp)
    have q2 := pos u (by simp)
    rw [Nat.add_zero] at e
    rw [e, e1, e2]
    show (if (nI p).toInt < 0 then _ else if (nI r).toInt < 0 then _ else if (nI u).toInt < 0 then _ else [(nI p).toNatClampNeg, (nI r).toNatClampNeg, (nI u).toNatClampNeg]) = _
    rw [if_neg q.1, if_neg q1.1, if_neg q2.1, q.2, q1.2, q2.2]
  | _ :: _ :: _ :: _ :: _, h1, _, _, _ => simp at h1
theorem tyL_by {S : ST} {T : List Nat} (hT : TpT S T) : ∀ (f m v a : Nat), a ≤ T.length → (∀ i, i < m → 32 ≤ v / 2 ^ (8 * i) % 256 ∧ v / 2 ^ (8 * i) % 256 ≤ 126) → ∀ i, i < (tyL T f m v a).1 → 32 ≤ (tyL T f m v a).2.1 / 2 ^ (8 * i) % 256 ∧ (tyL T f m v a).2.1 / 2 ^ (8 * i) % 256 ≤ 126
  | 0, m, v, a, h1, h2 => h2
  | f + 1, m, v, a, h1, h2 => by
    unfold tyL
    split
    · rename_i q
      have hb := hT.2.2 a q.1
      refine tyL_by hT f (m + 1) (256 * v + T.getD a 0) (a + 1) (by omega) (fun i hi => ?_)
      cases i with
      | zero =>
        have e : (256 * v + T.getD a 0) / 2 ^ (8 * 0) % 256 = T.getD a 0 := by
          show (256 * v + T.getD a 0) / 1 % 256 = _
          omega
        rw [e]
        omega
      | succ i =>
        have e : (256 * v + T.getD a 0) / 2 ^ (8 * (i + 1)) = v / 2 ^ (8 * i) := by
          rw [show 8 * (i + 1) = 8 + 8 * i by omega, Nat.pow_add, ← Nat.div_div_eq_div_mul]
          congr 1
          show (256 * v + T.getD a 0) / 256 = v
          omega
        rw [e]
        exact h2 i (by omega)
    · exact h2
theorem rdT_by {S : ST} {T : List Nat} (hT : TpT S T) {a p b : Nat} (ha : a < T.length) (h : rdT T a = (some p, b)) : byPc p := by
  have ok := tyL_ok hT 3 0 0 (a + 1) (by omega) (by decide)
  have by0 := tyL_by hT 3 0 0 (a + 1) (by omega) (fun i hi => by omega)
  unfold rdT at h
  split at h
  · cases h
  · have e : 16777216 * (tyL T 3 0 0 (a + 1)).1 + (tyL T 3 0 0 (a + 1)).2.1 = p := by injection h with h1 h2; injection h1
    generalize (tyL T 3 0 0 (a + 1)).1 = m at *
    generalize (tyL T 3 0 0 (a + 1)).2.1 = v at *
    have hv : v < 16777216 := by
      have : 256 ^ m ≤ 16777216 := by rcases (show m = 0 ∨ m = 1 ∨ m = 2 ∨ m = 3 by omega) with rfl | rfl | rfl | rfl <;> decide
      omega
    intro _ i hi
    have hm : p / 16777216 = m := by omega
    rw [hm] at hi
    have := by0 i hi
    rcases (show i = 0 ∨ i = 1 ∨ i = 2 by omega) with rfl | rfl | rfl
    · have e2 : p / 2 ^ (8 * 0) % 256 = v / 2 ^ (8 * 0) % 256 := by show p / 1 % 256 = v / 1 % 256; omega
      rw [e2]; exact this
    · have e2 : p / 2 ^ (8 * 1) % 256 = v / 2 ^ (8 * 1) % 256 := by show p / 256 % 256 = v / 256 % 256; omega
      rw [e2]; exact this
    · have e2 : p / 2 ^ (8 * 2) % 256 = v / 2 ^ (8 * 2) % 256 := by show p / 65536 % 256 = v / 65536 % 256; omega
      rw [e2]; exact this
theorem rd1_by {S : ST} {T : List Nat} (hT : TpT S T) {a p b : Nat} (ha : a ≤ T.length) (h : rd1 T a = (some p, b)) : byPc p := by
  unfold rd1 at h
  split at h
  · rename_i q
    exact rdT_by hT (lk_sk2 hT (a := a) (by omega)) h
  · have := (rdC_ok hT (sk_le ha)).1 p (by rw [h])
    intro q
    omega
theorem rdA_ok {S : ST} {T : List Nat} (hT : TpT S T) {qs : List Nat} {b : Nat} (h : rdA T = (some qs, b)) : PgOk qs ∧ PbOk qs := by
  unfold rdA at h
  have ok1 := rd1_ok hT (Nat.zero_le T.length)
  rcases h1 : rd1 T 0 with ⟨_ | p, a1⟩
  · rw [rdG_0 h1] at h; cases h
  have y1 := rd1_by hT (Nat.zero_le _) h1
  rw [h1] at ok1
  have o1 := ok1.1 p rfl
  have l1 : a1 ≤ T.length := ok1.2
  by_cases q1 : lk T a1 = 0
  · rw [rdG_1 h1 q1] at h
    injection h with h h'
    injection h with h
    subst h
    exact ⟨pg1 o1, pb1 y1⟩
  by_cases r1 : ¬ lk T a1 = 43 ∨ 0 = 2 ∨ (0 = 1 ∧ p < 16777216)
  · rw [rdG_2 h1 q1 r1] at h; cases h
  rw [rdG_3 h1 q1 r1] at h
  have n1 : sk T a1 + 1 ≤ T.length := lk_sk2 hT q1
  have ok2 := rd1_ok hT n1
  rcases h2 : rd1 T (sk T a1 + 1) with ⟨_ | r, a2⟩
  · rw [rdG_0 h2] at h; cases h
  have y2 := rd1_by hT n1 h2
  rw [h2] at ok2
  have o2 := ok2.1 r rfl
  have l2 : a2 ≤ T.length := ok2.2
  by_cases q2 : lk T a2 = 0
  · rw [rdG_1 h2 q2] at h
    injection h with h h'
    injection h with h
    subst h
    exact ⟨pg2 o1 o2, pb2 y1 y2⟩
  by_cases r2 : ¬ lk T a2 = 43 ∨ 0 + 1 = 2 ∨ (0 + 1 = 1 ∧ r < 16777216)
  · rw [rdG_2 h2 q2 r2] at h; cases h
  rw [rdG_3 h2 q2 r2] at h
  have n2 : sk T a2 + 1 ≤ T.length := lk_sk2 hT q2
  have ok3 := rd1_ok hT n2
  rcases h3 : rd1 T (sk T a2 + 1) with ⟨_ | u, a3⟩
  · rw [rdG_0 h3] at h; cases h
  have y3 := rd1_by hT n2 h3
  rw [h3] at ok3
  have o3 := ok3.1 u rfl
  by_cases q3 : lk T a3 = 0
  · rw [rdG_1 h3 q3] at h
    injection h with h h'
    injection h with h
    subst h
    exact ⟨pg3 o1 (by rcases o2 with z | z <;> omega) o3, pb3 y1 y2 y3⟩
  · rw [rdG_2 h3 q3 (Or.inr (Or.inl rfl))] at h; cases h
theorem PG_add {A A2 B B2 : ST} {qs : List Nat} (h : PG A B) (hk : kpN A < 4) (e : A2.1 389 28 = nI (kpN A + 1)) (e1 : ∀ i, i < 3 * kpN A → A2.2.1 408 i = A.2.1 408 i) (e2 : PrIs A2 408 (3 * kpN A) qs) (o1 : PgOk qs) (o2 : PbOk qs) (b1 : B2.1 0 11 = nI (kpN A + 1)) (b2 : PgIs B2 (373 + 2 * kpN A) qs)
    (b3 : ∀ p, p < kpN A → B2.1 (373 + 2 * p) 1 = B.1 (373 + 2 * p) 1 ∧ ∀ i, B2.2.1 (373 + 2 * p + 1) i = B.2.1 (373 + 2 * p + 1) i) : PG A2 B2 := by
  have ek : kpN A2 = kpN A + 1 := by
    show (A2.1 389 28).toNatClampNeg = _
    rw [e, nI_clamp (by omega)]
  have el : prL A2 408 (3 * kpN A) = qs := prL_of e2 o1.2.1
  have eo : ∀ p, p < kpN A → prL A2 408 (3 * p) = prL A 408 (3 * p) := fun p hp => by
    unfold prL
    rw [e1 (3 * p) (by omega), e1 (3 * p + 1) (by omega), e1 (3 * p + 2) (by omega)]
  refine ⟨⟨⟨by rw [ek]; exact e, by omega⟩, fun p hp => ?_⟩, by rw [ek]; exact b1, fun p hp => ?_⟩
  · rw [ek] at hp
    by_cases q : p = kpN A
    · subst q
      rw [el]
      exact ⟨e2, o1.1, o1.2.1⟩
    · rw [eo p (by omega)]
      obtain ⟨z1, z2⟩ := h.1.2 p (by omega)
      exact ⟨PrIs_k z1 (fun i hi => e1 _ (by omega)), z2⟩
  · rw [ek] at hp
    by_cases q : p = kpN A
    · subst q
      rw [el]
      exact ⟨b2, o2, o1⟩
    · rw [eo p (by omega)]
      obtain ⟨z1, z2⟩ := h.2.2 p (by omega)
      obtain ⟨w1, w2⟩ := b3 p (by omega)
      exact ⟨⟨w1.trans z1.1, z1.2.1, fun i hi => (w2 i).trans (z1.2.2 i hi)⟩, z2⟩
section I3
variable {sc : SC} {S S1 S2 : ST} {n : Nat}
theorem TP_nil (h1 : S2.1 389 9 = nI 0) (h2 : S1.1 1 1 = nI 0) : TP S2 S1 := ⟨[], ⟨h1, fun i hi => by simp at hi⟩, ⟨h2, fun i hi => by simp at hi⟩, fun x hx => by simp at hx, by simp⟩
abbrev t9X (a j : Nat) : Prop := teX a j
abbrev t9A (a : Nat) : Prop := trA a ∨ a = 2
abbrev t0A (a : Nat) : Prop := a = 396 ∨ a = 409
/-- a run that touches the tape and the reader only -/
theorem IV_t (h : IV S n) (g9 : Fr t9X t9A S S1) (g : Fr xX t0A S1 S2) (tp : TP S2 S1) : IV S2 (n + 1) := by
  have lo : LoF S S1 := LoF.of g9.n (fun a j q => by omega) (fun a q => by omega)
  have e1 : ET S S2 := lo.t.tr (ET_of g.n (by omega) (by omega) (fun a q1 q2 => by omega))
  have e2 : EP S S2 := lo.p.tr (EP_of g.n (by omega) (by omega))
  have e3 : ES S S2 := lo.s.tr (ES_of g.n (fun a q1 q2 => by omega))
  refine IV_of (S1 := S1) (TH_e e1 (h.1.fn g9.n (by omega) (fun a j q1 q2 q3 => by omega) (fun a q1 q2 q3 => by omega) (by omega) (by omega) (h.cf.fx h.a.1.2 g9 (by omega) (fun a j q1 q2 => by omega) (fun a q1 q2 => by omega)) (h.cs.fn (g9.1 0 6 (by omega))))) (PG_e e2 (h.2.1.fn g9.n (by omega) (fun a j q1 q2 q3 => by omega) (fun a q1 q2 q3 => by omega))) (SH_e e3 (h.2.2.1.fn g9.n (fun a j q1 q2 q3 => by omega) (fun a q1 q2 q3 => by omega))) tp (HiF.of g (fun a j q => by omega) (fun a q => by omega)) ?_ ?_
  · obtain ⟨B, b1, b2, b3⟩ := MIe_lo h.e lo
    exact ⟨B, ⟨(g.1 389 18 (by omega)).trans b1.1, fun i hi => ⟨(g.2.1 401 (by omega) i).trans (b1.2 i hi).1, (g.2.1 402 (by omega) i).trans (b1.2 i hi).2⟩⟩, fun x hx => (g.2.1 403 (by omega) x).trans (b2 x hx), b3⟩
  · rw [dgN_e e1]
    exact Nat.le_succ_of_le h.2.2.2.2.2
theorem PA_type {w : Int64} {m : Int32} (h : IV S n) : PA sc mX9_type mX10_type [aL w, aI m] S n := by
  intro Q k
  obtain ⟨l, z1, z2, z3, z4⟩ := h.2.2.2.1
  refine sX9_type z2 z4 (fun c => k _ S (fun Q' k' => ?_)) (fun c1 c2 c3 => k _ S (fun Q' k' => ?_)) (fun c1 c2 c3 S1 g1 g2 => k _ S1 (fun Q' k' => ?_))
  · refine sX10_type z1 z4 (fun _ => k' S h.mono) (fun d1 d2 d3 => ?_) (fun d1 d2 d3 => ?_)
    · rcases c with c | c
      · exact absurd d1 c
      · rw [d2] at c; cases c
    · rcases c with c | c
      · exact absurd d1 c
      · rw [d2] at c; cases c
  · refine sX10_type z1 z4 (fun c => ?_) (fun _ _ _ => k' S h.mono) (fun d1 d2 d3 => by omega)
    rcases c with c | c
    · exact absurd c1 c
    · rw [c2] at c; cases c
  · have lo : LoF S S1 := LoF.of g1.n (fun a j q => by omega) (fun a q => by omega)
    have y1 : TapIs S1 l := z1.kept (lo.1 389 9 (by omega)) (fun i => lo.2 396 (by omega) i)
    refine sX10_type y1 z4 (fun c => ?_) (fun d1 d2 d3 => by omega) (fun d1 d2 d3 S2 g3 g4 => k' S2 ?_)
    · rcases c with c | c
      · exact absurd c1 c
      · rw [c2] at c; cases c
    · refine IV_t h (g1.mono (fun a j q => Or.inr q) (fun a q => Or.inr q)) (g3.mono (fun a j q => ⟨q.1, Or.inl q.2⟩) (fun a q => Or.inl q)) ⟨_, g4, g2, fun x hx => ?_, ?_⟩
      · rcases List.mem_append.mp hx with q | q
        · exact z3 x q
        · exact wL_by _ c2 x q
      · rw [List.length_append, wL_len]
        exact d3
end I3
