/-! a call on both: the things -/
section I6
variable {S A A2 B B2 : ST}
theorem beg_cg {b b' e e' : Nat → Int32} {n m tn x y : Nat} (hb : ∀ j, j < n → b j = b' j) (he : ∀ j, j < m → e j = e' j) (h : begP b n e m tn x y) : begP b' n e' m tn x y := ⟨h.1, h.2.1, h.2.2.1, fun j hj => by
  have h2 := h.2.1
  have h3 := h.2.2.1
  rw [← hb _ (by omega), ← he _ (by omega)]
  exact h.2.2.2 j hj⟩
theorem clo_cg {b b' e e' : Nat → Int32} {n m tn x y : Nat} (hb : ∀ j, j < n → b j = b' j) (he : ∀ j, j < m → e j = e' j) (h : cloP b n e m tn x y) : cloP b' n e' m tn x y := ⟨h.1, h.2.1, h.2.2.1, fun j h1 hj => by
  have h0 := h.1
  have h2 := h.2.1
  have h3 := h.2.2.1
  rw [← hb _ (by omega), ← he _ (by omega)]
  exact h.2.2.2 j h1 hj⟩
theorem SpIs.cg {a n m : Nat} {b b' e e' : Nat → Int32} (h : SpIs S a b n e m) (hb : ∀ j, j < n → b j = b' j) (he : ∀ j, j < m → e j = e' j) : SpIs S a b' n e' m := SpB.cg h (fun i x y hi hx hy => by
  have hb' : ∀ j, j < n → b' j = b j := fun j q => (hb j q).symm
  have he' : ∀ j, j < m → e' j = e j := fun j q => (he j q).symm
  unfold cmpP
  constructor
  · rintro (⟨q1, q2, q3⟩ | ⟨q1, q2, q3⟩)
    · exact Or.inl ⟨q1, q2, beg_cg hb he q3⟩
    · exact Or.inr ⟨q1, q2, clo_cg hb he q3⟩
  · rintro (⟨q1, q2, q3⟩ | ⟨q1, q2, q3⟩)
    · exact Or.inl ⟨q1, q2, beg_cg hb' he' q3⟩
    · exact Or.inr ⟨q1, q2, clo_cg hb' he' q3⟩)
theorem LnIs.cg {a n : Nat} {b b' : Nat → Int32} (h : LnIs S a b n) (hb : ∀ j, j < n → b j = b' j) : LnIs S a b' n := ⟨h.1, fun j hj => (h.2 j hj).trans (hb j hj)⟩
theorem EnIs.cg {a n : Nat} {b b' : Nat → Int32} (h : EnIs S a b n) (hb : ∀ j, j < n → b j = b' j) : EnIs S a b' n := ⟨h.1, fun j hj => (h.2 j hj).trans (hb j hj)⟩
theorem PlIs.cg {a n : Nat} {b b' : Nat → Int32} (h : PlIs S a b n) (hb : ∀ j, j < n → b j = b' j) : PlIs S a b' n := fun p hp => by rw [h p hp, pl_cg hb]
theorem CT1_t {t : Nat} (h : CT1 A B t) (ez : szN A2 t = szN A t) (es : stN A2 t = stN A t) (ee : esN A2 t = esN A t) (el : ∀ j, j < szN A t → lnB A t j = lnB A2 t j) (en : ∀ j, j < esN A t → enB A t j = enB A2 t j) : CT1 A2 B t := by
  obtain ⟨h1, h2, h3, h4, h5⟩ := h
  unfold CT1
  rw [ez, es, ee]
  exact ⟨h1.cg el, h2.cg el, h3, fun q => (h4 q).cg en, fun q => (h5 q).cg el en⟩
theorem CT1_fn {t : Nat} {px : Nat → Nat → Prop} {pi : Nat → Prop} (h : CT1 A B t) (g : FrN px pi B B2) (h1 : ∀ k j, k < 7 → ¬ px (289 + 7 * t + k) j) (h2 : ∀ k, k < 7 → ¬ pi (289 + 7 * t + k)) : CT1 A B2 t := by
  obtain ⟨a1, a2, a3, a4, a5⟩ := h
  exact ⟨a1.fn g (h1 1 1 (by omega)) (h2 2 (by omega)), a2.fn g (h2 3 (by omega)), (g.1 _ _ (h1 0 3 (by omega))).trans a3, fun q => (a4 q).fn g (h1 4 1 (by omega)) (h2 5 (by omega)), fun q => (a5 q).fn g (h2 6 (by omega))⟩
theorem CIf_t (hw : ∀ t, t < 12 → shw A2 t = shw A t) (h1 : thN A ≤ 12) (h2 : thN A2 ≤ 12) (hT : SpT A A2 (shL A 0)) (q : CIf A B) : CIf A2 B := by
  have e := shL_cg (but := 0) hw h1 h2
  refine ⟨q.1, ?_⟩
  rcases q.2 with z | ⟨z1, z2, Z, y1, y2, y3, y4⟩
  · exact Or.inl z
  · refine Or.inr ⟨z1, by rw [e]; exact z2, Z, ?_, ?_, ?_, ?_⟩
    · rw [e]; exact y1.tr hT
    · rw [e]; exact y2
    · rw [e]; exact y3
    · rw [e]; exact y4
theorem CIs_t (hw : ∀ t, t < 12 → shw A2 t = shw A t) (h1 : thN A ≤ 12) (h2 : thN A2 ≤ 12) (hT : SpT A A2 (shL A 0)) (q : CIs A B) : CIs A2 B := by
  unfold CIs at *
  rw [shL_cg (but := 0) hw h1 h2, neA_t hT, slips_t hw h1 h2 hT]
  exact q
theorem CIf.fy {px : Nat → Nat → Prop} {pi : Nat → Prop} (h : CIf A B) (hth : thN A ≤ 12) (g : Fr px pi B B2) (h5 : ¬ px 0 5) (hx : ∀ a j, 6 ≤ a ∧ a ≤ 149 → ¬ px a j) (hi : ∀ a, 6 ≤ a ∧ a ≤ 149 → ¬ pi a) (ht : ∀ t, t < thN A → stN A t = 1 → ∀ k, k < 7 → (∀ j, ¬ px (289 + 7 * t + k) j) ∧ ¬ pi (289 + 7 * t + k)) : CIf A B2 := by
  obtain ⟨⟨LB, gg, h1⟩, h2⟩ := h
  refine ⟨⟨LB, gg, h1.k (fun j => g.1 12 j (hx 12 j (by omega))) (fun a q1 q2 j => g.2.1 a (hi a (by omega)) j)⟩, ?_⟩
  rcases h2 with h2 | ⟨h2, h3, h4⟩
  · exact Or.inl ((g.1 0 5 h5).trans h2)
  · exact Or.inr ⟨(g.1 0 5 h5).trans h2, h3, h4.fy hth g hx hi ht⟩
abbrev aX (k : Nat) (a j : Nat) : Prop := atX k a j ∨ (a = 3 ∧ j = 1) ∨ (a = 1 ∧ j = 1)
abbrev aA (k : Nat) (a : Nat) : Prop := atA k a ∨ a = 4
/-- a thing more -/
theorem TH_add {k m : Nat} {f f' : Nat → Int32} (h : TH S S) (ek : thN S = k) (hk : k < 12) (hm : 1 ≤ m ∧ m ≤ 16) (hby : ∀ j, j < m → isBy (f j)) (a0 : A2.1 389 0 = nI (k + 1)) (a7 : A2.1 389 7 = S.1 389 7)
    (r0 : ∀ i, A2.2.1 390 i = if 16 * k ≤ i ∧ i < 16 * k + m then f (i - 16 * k) else S.2.1 390 i) (r1 : ∀ t, A2.2.1 391 t = if t = k then nI m else S.2.1 391 t) (r2 : ∀ t, A2.2.1 392 t = if t = k then nI 0 else S.2.1 392 t) (r3 : ∀ i, A2.2.1 393 i = S.2.1 393 i) (r4 : ∀ i, A2.2.1 394 i = S.2.1 394 i) (r5 : ∀ t, A2.2.1 395 t = if t = k then nI 0 else S.2.1 395 t)
    (g : Fr (aX k) (aA k) S B2) (b0 : B2.1 0 3 = nI (k + 1)) (b1 : LnIs B2 (289 + 7 * k) f' m) (b2 : PlIs B2 (289 + 7 * k) f' m) (ef : ∀ j, j < m → f' j = f j) : TH A2 B2 := by
  obtain ⟨⟨ha, hb, hg, h4, hu⟩, hC, hD, hF, hs⟩ := h
  have th2 : thN A2 = k + 1 := by
    show (A2.1 389 0).toNatClampNeg = _
    rw [a0, nI_clamp (by omega)]
  have dg2 : dgN A2 = dgN S := by
    show (A2.1 389 7).toNatClampNeg = _
    rw [a7]; rfl
  have sz : ∀ t, szN A2 t = if t = k then m else szN S t := fun t => by
    unfold szN
    rw [r1 t]
    split
    · rw [nI_clamp (by omega)]
    · rfl
  have st : ∀ t, stN A2 t = if t = k then 0 else stN S t := fun t => by
    unfold stN
    rw [r2 t]
    split
    · rw [nI_clamp (by omega)]
    · rfl
  have db : ∀ t, dbN A2 t = if t = k then 0 else dbN S t := fun t => by
    unfold dbN
    rw [r5 t]
    split
    · rw [nI_clamp (by omega)]
    · rfl
  have es : ∀ t, esN A2 t = esN S t := fun t => by unfold esN; rw [r4 t]
  have en : ∀ t j, enB A2 t j = enB S t j := fun t j => r3 _
  have ln : ∀ t, t < k → ∀ j, j < 16 → lnB A2 t j = lnB S t j := fun t ht j hj => by
    show A2.2.1 390 (16 * t + j) = S.2.1 390 (16 * t + j)
    rw [r0, if_neg (by omega)]
  have lnk : ∀ j, j < m → lnB A2 k j = f j := fun j hj => by
    show A2.2.1 390 (16 * k + j) = f j
    rw [r0, if_pos (by omega), Nat.add_sub_cancel_left]
  have hw : ∀ t, t < 12 → shw A2 t = shw S t := fun t ht => by
    unfold shw
    rw [th2, st t, ek]
    congr 1
    rw [eq_iff_iff]
    by_cases q : t = k
    · rw [if_pos q]; omega
    · rw [if_neg q]
      constructor
      · exact fun z => ⟨by omega, z.2⟩
      · exact fun z => ⟨by omega, z.2⟩
  have hT : SpT S A2 (shL S 0) := fun t ht => by
    have q := (shL_mem ht).1
    rw [ek] at q
    have q16 := (ha.2 t (by omega)).2.2.1
    exact ⟨by rw [sz, if_neg (by omega)], es t, fun j hj => (ln t q j (by omega)).symm, fun j hj => (en t j).symm⟩
  have h12 : thN S ≤ 12 := by omega
  have h13 : thN A2 ≤ 12 := by omega
  refine ⟨⟨⟨⟨by rw [th2]; exact a0, by omega⟩, fun t ht => ?_⟩, fun t ht => ?_, ⟨⟨by rw [dg2, a7]; exact hg.1.1, by rw [dg2]; exact hg.1.2⟩, fun t ht => ?_⟩, by rw [shL_cg hw h12 h13]; exact h4, fun t ht => by rw [r4, es]; exact hu t ht⟩, ⟨by rw [th2]; exact b0, fun t ht => ⟨fun q => ?_, fun q => ?_⟩⟩, ⟨by rw [dg2]; exact (g.1 0 9 (by omega)).trans hD.1, fun j hj => ?_⟩, CIf_t hw h12 h13 hT (hF.fy h12 g (by omega) (fun a j q z => by omega) (fun a q z => by omega) (fun t q1 q2 i hi => ⟨fun j z => by omega, fun z => by omega⟩)), CIs_t hw h12 h13 hT (hs.fn (g.1 0 6 (by omega)))⟩
  · rw [th2] at ht
    by_cases q : t = k
    · subst q
      rw [sz, if_pos rfl, r1, if_pos rfl]
      exact ⟨rfl, hm.1, hm.2, fun j hj => by rw [lnk j hj]; exact hby j hj⟩
    · obtain ⟨z1, z2, z3, z4⟩ := ha.2 t (by omega)
      rw [sz, if_neg q, r1, if_neg q]
      exact ⟨z1, z2, z3, fun j hj => by rw [ln t (by omega) j (by omega)]; exact z4 j hj⟩
  · rw [th2] at ht
    by_cases q : t = k
    · subst q
      rw [st, if_pos rfl, r2, if_pos rfl, r4, es]
      exact ⟨⟨rfl, by omega⟩, hu t (by omega), fun z => by omega, fun z => by omega⟩
    · rw [st, if_neg q, r2, if_neg q, r4, es]
      obtain ⟨z1, z2, z3, z4⟩ := hb t (by omega)
      exact ⟨z1, z2, z3, fun w j hj => by rw [r3]; exact z4 w j hj⟩
  · rw [th2] at ht
    rw [dg2]
    by_cases q : t = k
    · subst q
      rw [db, if_pos rfl, st, if_pos rfl, r5, if_pos rfl]
      exact ⟨rfl, by omega, by omega⟩
    · rw [db, if_neg q, st, if_neg q, r5, if_neg q]
      exact hg.2 t (by omega)
  · rw [th2] at q
    by_cases e : t = k
    · subst e
      have c0 := (hC.2 t ht).2 (by omega)
      unfold CT1
      rw [sz, if_pos rfl, st, if_pos rfl]
      refine ⟨b1.cg (fun j hj => by rw [ef j hj, lnk j hj]), b2.cg (fun j hj => by rw [ef j hj, lnk j hj]), (g.1 _ _ (by omega)).trans c0, fun z => by omega, fun z => by omega⟩
    · have c1 := (hC.2 t ht).1 (by omega)
      have q16 := (ha.2 t (by omega)).2.2.1
      refine CT1_t (CT1_fn c1 g.n (fun i j hi z => by omega) (fun i hi z => by omega)) (by rw [sz, if_neg e]) (by rw [st, if_neg e]) (es t) (fun j hj => (ln t (by omega) j (by omega)).symm) (fun j hj => (en t j).symm)
  · rw [th2] at q
    exact (g.1 _ _ (by omega)).trans ((hC.2 t ht).2 (by omega))
  · rw [dg2] at hj
    obtain ⟨v, v1, v2, v3⟩ := hD.2 j hj
    refine ⟨v, v1, (g.2.1 281 (by omega) j).trans v2, fun t ht hs2 => ?_⟩
    rw [th2] at ht
    by_cases q : t = k
    · rw [st, if_pos q] at hs2; omega
    · rw [st, if_neg q] at hs2
      rw [db, if_neg q]
      exact v3 t (by omega) hs2
end I6
