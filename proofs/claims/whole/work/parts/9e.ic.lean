/-! a call on both: back -/
section IC
variable {sc : SC} {S S1 S2 S3 A2 B2 : ST} {n : Nat}
theorem TH_back (h : TH S S) (hd0 : 0 < dgN S) (a0 : A2.1 389 0 = S.1 389 0) (a7 : A2.1 389 7 = nI (dgN S - 1)) (r0 : ∀ i, A2.2.1 390 i = S.2.1 390 i) (r1 : ∀ i, A2.2.1 391 i = S.2.1 391 i) (r3 : ∀ i, A2.2.1 393 i = S.2.1 393 i) (r4 : ∀ i, A2.2.1 394 i = S.2.1 394 i) (hI : BkIs S A2 (dgN S) (thN S))
    (g : Fr bkX (fun _ => False) S B2) (b9 : B2.1 0 9 = nI (dgN S - 1)) (hB : BkC S S B2 (dgN S) (thN S)) : TH A2 B2 := by
  obtain ⟨⟨ha, hb, hg, h4, hu⟩, hC, hD, hF, hs⟩ := h
  have h12 := ha.1.2
  have d512 := hg.1.2
  have th2 : thN A2 = thN S := by unfold thN; rw [a0]
  have dg2 : dgN A2 = dgN S - 1 := by
    show (A2.1 389 7).toNatClampNeg = _
    rw [a7, nI_clamp (by omega)]
  have sz : ∀ t, szN A2 t = szN S t := fun t => by unfold szN; rw [r1 t]
  have ln : ∀ t, lnB A2 t = lnB S t := fun t => by funext j; exact r0 _
  have es : ∀ t, esN A2 t = esN S t := fun t => by unfold esN; rw [r4 t]
  have en : ∀ t, enB A2 t = enB S t := fun t => by funext j; exact r3 _
  have st : ∀ t, t < 12 → stN A2 t = if t < thN S ∧ dbN S t = dgN S then 0 else stN S t := fun t ht => by
    by_cases q : t < thN S ∧ dbN S t = dgN S
    · rw [if_pos q]
      show (A2.2.1 392 t).toNatClampNeg = _
      rw [((hI t ht).1 q.1 q.2).1, nI_clamp (by omega)]
    · rw [if_neg q]
      show (A2.2.1 392 t).toNatClampNeg = _
      rw [((hI t ht).2 q).1]
      rfl
  have db : ∀ t, t < 12 → dbN A2 t = if t < thN S ∧ dbN S t = dgN S then 0 else dbN S t := fun t ht => by
    by_cases q : t < thN S ∧ dbN S t = dgN S
    · rw [if_pos q]
      show (A2.2.1 395 t).toNatClampNeg = _
      rw [((hI t ht).1 q.1 q.2).2, nI_clamp (by omega)]
    · rw [if_neg q]
      show (A2.2.1 395 t).toNatClampNeg = _
      rw [((hI t ht).2 q).2]
      rfl
  have n1 : ∀ t, t < thN S → stN S t = 1 → ¬ dbN S t = dgN S := fun t ht q z => by
    have := (hg.2 t ht).2.2
    omega
  have hw : ∀ t, t < 12 → shw A2 t = shw S t := fun t ht => by
    unfold shw
    rw [th2, st t ht]
    by_cases q : t < thN S ∧ dbN S t = dgN S
    · rw [if_pos q, decide_eq_false (by omega), decide_eq_false (fun z => n1 t z.1 z.2 q.2)]
    · rw [if_neg q]
  have hT : SpT S A2 (shL S 0) := fun t ht => ⟨sz t, es t, fun j hj => by rw [ln], fun j hj => by rw [en]⟩
  have h13 : thN A2 ≤ 12 := by omega
  have gt : Fr (fun a j => ¬ B2.1 a j = S.1 a j) (fun _ => False) S B2 := ⟨fun a j q => Decidable.not_not.mp q, g.2⟩
  have same : ∀ a j, ¬ bkX a j → ¬ ¬ B2.1 a j = S.1 a j := fun a j q z => z (g.1 a j q)
  have thg : ∀ t, t < 12 → ¬ (t < thN S ∧ dbN S t = dgN S) → ∀ i j, i < 7 → ¬ ¬ B2.1 (289 + 7 * t + i) j = S.1 (289 + 7 * t + i) j := fun t ht q i j hi z => by
    by_cases w : i = 0 ∧ j = 3
    · obtain ⟨w1, w2⟩ := w
      subst w1 w2
      have := hB t ht
      rw [if_neg q] at this
      exact z this
    · exact same _ _ (by omega) z
  refine ⟨⟨MIa_of ha a0 r1 r0, fun t ht => ?_, ⟨⟨by rw [dg2]; exact a7, by omega⟩, fun t ht => ?_⟩, by rw [shL_cg hw h12 h13]; exact h4, fun t ht => by rw [r4, es]; exact hu t ht⟩, ⟨by rw [th2]; exact (g.1 0 3 (by omega)).trans hC.1, fun t ht => ⟨fun q => ?_, fun q => ?_⟩⟩, ⟨by rw [dg2]; exact b9, fun j hj => ?_⟩, CIf_t hw h12 h13 hT (hF.fy h12 gt (same 0 5 (by omega)) (fun a j q => same a j (by omega)) (fun a q z => z) (fun t q1 q2 i hi => ⟨fun j => thg t (by omega) (fun z => n1 t q1 q2 z.2) i j hi, fun z => z⟩)), CIs_t hw h12 h13 hT (hs.fn (g.1 0 6 (by omega)))⟩
  · rw [th2] at ht
    obtain ⟨z1, z2, z3, z4⟩ := hb t ht
    rw [st t (by omega), r4, es]
    by_cases q : t < thN S ∧ dbN S t = dgN S
    · rw [if_pos q]
      exact ⟨⟨((hI t (by omega)).1 q.1 q.2).1, by omega⟩, z2, fun z => by omega, fun z => by omega⟩
    · rw [if_neg q]
      exact ⟨⟨((hI t (by omega)).2 q).1.trans z1.1, z1.2⟩, z2, z3, fun w j hj => by rw [r3]; exact z4 w j hj⟩
  · rw [th2] at ht
    obtain ⟨w1, w2, w3⟩ := hg.2 t ht
    rw [dg2, db t (by omega), st t (by omega)]
    by_cases q : t < thN S ∧ dbN S t = dgN S
    · rw [if_pos q, if_pos q]
      exact ⟨((hI t (by omega)).1 q.1 q.2).2, by omega, by omega⟩
    · rw [if_neg q, if_neg q]
      exact ⟨((hI t (by omega)).2 q).2.trans w1, by omega, w3⟩
  · rw [th2] at q
    have c := (hC.2 t ht).1 q
    by_cases e : t < thN S ∧ dbN S t = dgN S
    · obtain ⟨c1, c2, c3, c4, c5⟩ := c
      unfold CT1
      rw [sz, ln, es, en, st t ht, if_pos e]
      have b3 := hB t ht
      rw [if_pos e] at b3
      exact ⟨c1.fr g (by omega) (fun z => z), c2.fr g (fun z => z), b3, fun z => by omega, fun z => by omega⟩
    · refine CT1_t (CT1_fn c gt.n (fun i j hi => thg t ht e i j hi) (fun i hi z => z)) (sz t) (by rw [st t ht, if_neg e]) (es t) (fun j hj => by rw [ln]) (fun j hj => by rw [en])
  · rw [th2] at q
    have b3 := hB t ht
    rw [if_neg (by omega)] at b3
    exact b3.trans ((hC.2 t ht).2 q)
  · rw [dg2] at hj
    obtain ⟨v, v1, v2, v3⟩ := hD.2 j (by omega)
    refine ⟨v, v1, (g.2.1 281 (fun z => z) j).trans v2, fun t ht hs2 => ?_⟩
    rw [th2] at ht
    rw [st t (by omega)] at hs2
    rw [db t (by omega)]
    by_cases q : t < thN S ∧ dbN S t = dgN S
    · rw [if_pos q] at hs2; omega
    · rw [if_neg q] at hs2
      rw [if_neg q]
      exact v3 t ht hs2
theorem PA_back (h : IV S n) : PA sc mX9_back mX10_back [] S n := by
  intro Q k
  refine sX9_back h.a h.b h.g h.th h.dg (fun d => k _ S (fun Q' k' => ?_)) (fun d S1 g1 b9 hB => k _ S1 (fun Q' k' => ?_))
  · exact sX10_back h.a h.g (fun _ => k' S h.mono) (fun q => by omega)
  · have lo : LoF S S1 := LoF.of g1.n (fun a j q => by omega) (fun a q => by cases q)
    have et := thN_m lo.t.sm
    have ed := dgN_e lo.t
    refine sX10_back (MIa_e lo.t h.a) (MIg_e lo.t h.g) (fun q => by omega) (fun q S2 g2 a7 hI => ?_)
    rw [ed] at a7
    rw [ed, et] at hI
    rw [ed, et, bkC_m lo.t.sm]
    have hI2 : BkIs S S2 (dgN S) (thN S) := fun u hu => by
      have e1 : dbN S1 u = dbN S u := by unfold dbN; rw [lo.2 395 (by omega)]
      have := hI u hu
      rw [e1, lo.2 392 (by omega), lo.2 395 (by omega)] at this
      exact this
    have hH := TH_back h.1 d ((g2.1 389 0 (by omega)).trans (lo.1 389 0 (by omega))) a7 (fun i => (g2.2.1 390 (by omega) i).trans (lo.2 390 (by omega) i)) (fun i => (g2.2.1 391 (by omega) i).trans (lo.2 391 (by omega) i)) (fun i => (g2.2.1 393 (by omega) i).trans (lo.2 393 (by omega) i)) (fun i => (g2.2.1 394 (by omega) i).trans (lo.2 394 (by omega) i)) hI2 g1 b9 hB
    have e2' : EP S S2 := lo.p.tr (EP_of g2.n (by omega) (by omega))
    have e3' : ES S S2 := lo.s.tr (ES_of g2.n (fun a q1 q2 => by omega))
    refine k' _ (IV_of hH (PG_e e2' (h.2.1.fn g1.n (by omega) (fun a j q1 q2 q3 => by omega) (fun a q1 q2 q3 => q3))) (SH_e e3' (h.2.2.1.fn g1.n (fun a j q1 q2 q3 => by omega) (fun a q1 q2 q3 => q3))) ?_ (HiF.of g2 (fun a j q => by omega) (fun a q => by omega)) ?_ ?_)
    · obtain ⟨l, z1, z2, z3⟩ := h.2.2.2.1
      exact ⟨l, z1.kept ((g2.1 389 9 (by omega)).trans (lo.1 389 9 (by omega))) (fun i => (g2.2.1 396 (by omega) i).trans (lo.2 396 (by omega) i)), z2.kept (g1.1 1 1 (by omega)) (fun i => g1.2.1 2 (fun z => z) i), z3⟩
    · obtain ⟨B, c1, c2, c3⟩ := MIe_lo h.e lo
      exact ⟨B, ⟨(g2.1 389 18 (by omega)).trans c1.1, fun i hi => ⟨(g2.2.1 401 (by omega) i).trans (c1.2 i hi).1, (g2.2.1 402 (by omega) i).trans (c1.2 i hi).2⟩⟩, fun x hx => (g2.2.1 403 (by omega) x).trans (c2 x hx), c3⟩
    · have : dgN S2 = dgN S - 1 := by
        have := h.g.1.2
        show (S2.1 389 7).toNatClampNeg = _
        rw [a7, nI_clamp (by omega)]
      have := h.2.2.2.2.2
      omega
end IC
