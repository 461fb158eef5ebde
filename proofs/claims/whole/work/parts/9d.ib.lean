/-! a call on both: doing, back -/
section IB
variable {sc : SC} {S S1 S2 S3 A2 B2 : ST} {n : Nat}
theorem TH_doing {k : Nat} {ps : List Nat} (h : TH S S) (hps : PgOk ps) (hpb : PbOk ps) (hdl : dgN S < 512) (hsh : shL S 0 ≠ []) (a0 : A2.1 389 0 = S.1 389 0) (a7 : A2.1 389 7 = nI (dgN S + 1)) (r0 : ∀ i, A2.2.1 390 i = S.2.1 390 i) (r1 : ∀ i, A2.2.1 391 i = S.2.1 391 i) (hI : DgIs S A2 k ps (dgN S + 1) (thN S))
    (b9 : B2.1 0 9 = nI (dgN S + 1)) (b5 : B2.1 0 5 = nI 1) (b6 : B2.1 0 6 = S.1 0 6) (b281 : ∀ j, B2.2.1 281 j = if j = dgN S then nI (tcG S k (thN S)) else S.2.1 281 j) (hC2 : DgC S B2 k ps (thN S)) (hZ : FtZ S B2) : TH A2 B2 := by
  obtain ⟨⟨ha, hb, hg, h4, hu⟩, hC, hD, hF, hs⟩ := h
  have h12 := ha.1.2
  have th2 : thN A2 = thN S := by unfold thN; rw [a0]
  have dg2 : dgN A2 = dgN S + 1 := by
    show (A2.1 389 7).toNatClampNeg = _
    rw [a7, nI_clamp (by omega)]
  have sz : ∀ t, szN A2 t = szN S t := fun t => by unfold szN; rw [r1 t]
  have ln : ∀ t, lnB A2 t = lnB S t := fun t => by funext j; exact r0 _
  have st := fun (u : Nat) (hu : u < 12) => dg_stN hI hu
  have tk0 : ∀ u, tcB S k u = true → stN S u = 0 := fun u q => (of_decide_eq_true q).1
  have no : ∀ u, u < 12 → ¬ (u < thN S ∧ tcB S k u = true) → esN A2 u = esN S u ∧ stN A2 u = stN S u ∧ dbN A2 u = dbN S u ∧ ∀ j, j < 36 → enB A2 u j = enB S u j := fun u hu2 q => by
    obtain ⟨q1, q2, q3, q4⟩ := (hI u hu2).2 q
    exact ⟨by unfold esN; rw [q3], by unfold stN; rw [q1], by unfold dbN; rw [q2], fun j hj => q4 j hj⟩
  have hw : ∀ t, t < 12 → shw A2 t = shw S t := fun t ht => by
    unfold shw
    rw [th2, st t ht]
    by_cases q : t < thN S ∧ tcB S k t = true
    · rw [if_pos q, decide_eq_false (fun z => by have := z.2; split at this <;> omega), decide_eq_false (fun z => by have := tk0 t q.2; omega)]
    · rw [if_neg q]
  have nsh : ∀ t, stN S t = 1 → ¬ (t < thN S ∧ tcB S k t = true) := fun t q z => by have := tk0 t z.2; omega
  have hT : SpT S A2 (shL S 0) := fun t ht => by
    have q := shL_mem ht
    obtain ⟨q1, q2, q3, q4⟩ := no t (by omega) (nsh t q.2)
    have e12 := (hb t q.1).2.2.1 q.2
    exact ⟨sz t, q1, fun j hj => by rw [ln], fun j hj => (q4 j (by omega)).symm⟩
  have hMb : MIb A2 := MIb_dg ha hb th2 hps hpb hI
  have h13 : thN A2 ≤ 12 := by omega
  refine ⟨⟨MIa_of ha a0 r1 r0, hMb, ⟨⟨by rw [dg2]; exact a7, by omega⟩, fun t ht => ?_⟩, by rw [shL_cg hw h12 h13]; exact h4, fun t ht => ?_⟩, ⟨by rw [th2]; exact hC2.1, fun t ht => ⟨fun q => ?_, fun q => ?_⟩⟩, ⟨by rw [dg2]; exact b9, fun j hj => ?_⟩, CIf_t hw h12 h13 hT ⟨?_, Or.inr ⟨b5, hsh, hZ⟩⟩, CIs_t hw h12 h13 hT (hs.fn b6)⟩
  · rw [th2] at ht
    rw [dg2]
    by_cases q : t < thN S ∧ tcB S k t = true
    · obtain ⟨q1, q2, q3, q4⟩ := (hI t (by omega)).1 q.1 q.2
      have e : dbN A2 t = dgN S + 1 := by unfold dbN; rw [q2, nI_clamp (by omega)]
      rw [e, st t (by omega), if_pos q]
      exact ⟨q2, by omega, by split <;> omega⟩
    · obtain ⟨q1, q2, q3, q4⟩ := (hI t (by omega)).2 q
      obtain ⟨y1, y2, y3, y4⟩ := no t (by omega) q
      obtain ⟨w1, w2, w3⟩ := hg.2 t ht
      rw [y3, y2, q2]
      exact ⟨w1, by omega, w3⟩
  · by_cases q : t < thN S ∧ tcB S k t = true
    · obtain ⟨q1, q2, q3, q4⟩ := (hI t ht).1 q.1 q.2
      have l35 := enL_35 ha q.1 hps
      have e : esN A2 t = (enL S t ps).length := by unfold esN; rw [q3, nI_clamp (by omega)]
      rw [e]
      exact ⟨q3, l35⟩
    · obtain ⟨q1, q2, q3, q4⟩ := (hI t ht).2 q
      rw [(no t ht q).1, q3]
      exact hu t ht
  · rw [th2] at q
    obtain ⟨c1, c2, c3⟩ := hC2.2 t ht
    by_cases e : t < thN S ∧ tcB S k t = true
    · obtain ⟨q1, q2, q3, q4⟩ := (hI t ht).1 e.1 e.2
      obtain ⟨d1, d2⟩ := c2 e
      have l35 := enL_35 ha q hps
      have ee : esN A2 t = (enL S t ps).length := by unfold esN; rw [q3, nI_clamp (by omega)]
      unfold CT1
      rw [sz, ln, st t ht, if_pos e, ee]
      refine ⟨(c1 q).1, (c1 q).2, d1, fun z => ?_, fun z => by split at z <;> omega⟩
      have od : oddB S t ps = false := by
        cases w : oddB S t ps
        · rfl
        · rw [if_pos w] at z; omega
      exact (d2 od).cg (fun j hj => (q4 j hj).symm)
    · obtain ⟨y1, y2, y3, y4⟩ := no t ht e
      have e35 := (hb t q).2.1.2
      exact CT1_t ((c3 e).1 q) (sz t) y2 y1 (fun j hj => by rw [ln]) (fun j hj => (y4 j (by omega)).symm)
  · rw [th2] at q
    exact ((hC2.2 t ht).2.2 (by omega)).2 q
  · rw [dg2] at hj
    by_cases e : j = dgN S
    · refine ⟨tcG S k (thN S), ?_, by rw [b281, if_pos e], fun t ht hs2 => ?_⟩
      · have := tcG_lt S k (thN S)
        have := p2_le h12
        omega
      · rw [th2] at ht
        rw [tcG_bit]
        by_cases q : t < thN S ∧ tcB S k t = true
        · obtain ⟨q1, q2, q3, q4⟩ := (hI t (by omega)).1 q.1 q.2
          have e2 : dbN A2 t = dgN S + 1 := by unfold dbN; rw [q2, nI_clamp (by omega)]
          exact ⟨fun _ => decide_eq_true q, fun z => by omega⟩
        · obtain ⟨y1, y2, y3, y4⟩ := no t (by omega) q
          have w2 := (hg.2 t ht).2.1
          exact ⟨fun z => by omega, fun _ => decide_eq_false q⟩
    · obtain ⟨v, v1, v2, v3⟩ := hD.2 j (by omega)
      refine ⟨v, v1, by rw [b281, if_neg e]; exact v2, fun t ht hs2 => ?_⟩
      rw [th2] at ht
      by_cases q : t < thN S ∧ tcB S k t = true
      · obtain ⟨q1, q2, q3, q4⟩ := (hI t (by omega)).1 q.1 q.2
        have e2 : dbN A2 t = dgN S + 1 := by unfold dbN; rw [q2, nI_clamp (by omega)]
        exact ⟨fun z => by omega, fun z => by omega⟩
      · obtain ⟨y1, y2, y3, y4⟩ := no t (by omega) q
        rw [y2] at hs2
        rw [y3]
        exact v3 t ht hs2
  · obtain ⟨Z, z1, z2, z3, z4⟩ := hZ
    obtain ⟨gg, z5⟩ := z4.1.2.2.1
    exact ⟨_, gg, z5⟩
theorem PA_doing {m : Int32} (h : IV S n) (hn : n < 512) : PA sc mX9_doing mX10_doing [aI m] S n := by
  intro Q k
  have hdl : dgN S < 512 := by have := h.2.2.2.2.2; omega
  refine sX9_doing h.m0 h.th h.cf h.dg.1 hdl (fun d => k _ S (fun Q' k' => ?_)) (fun d1 d2 => k _ S (fun Q' k' => ?_)) (fun d1 d2 d3 S1 g1 f1 => k _ S1 (fun Q' k' => ?_)) (fun u e1 e2 d1 d2 S1 g1 b9 b5 b6 b281 hC2 hZ => k _ S1 (fun Q' k' => ?_))
  · exact sX10_doing h.m0 h.g (fun _ => k' S h.mono) (fun q => absurd q d) (fun q => absurd q d) (fun u q1 q2 => absurd (by rw [q1, nIt (by omega)]; omega) d)
  · exact sX10_doing h.m0 h.g (fun q => absurd d1 q) (fun _ _ => k' S h.mono) (fun _ q => absurd d2 q) (fun _ _ _ q => absurd d2 q)
  · have lo := qLo (fq_qu g1)
    have es := shL_m lo.t.sm 0
    have en := neL_m lo.t.sm
    refine sX10_doing (MI0_lo h lo) (MIg_e lo.t h.g) (fun q => absurd d1 q) (fun _ q => absurd (es.symm.trans q) d2) (fun _ _ _ S2 g2 e2 => k' S2 ?_) (fun _ _ _ _ q => absurd (en.trans d3) q)
    exact IV_quiet h (fq_qu g1) f1 (h.cs.fn (g1.1 0 6 (by omega))) g2 e2
  · have lo : LoF S S1 := LoF.of g1 (fun a j q => by omega) (fun a q => by omega)
    have es := shL_m lo.t.sm 0
    have en := neL_m lo.t.sm
    have er := nr0_m lo.t.sm
    have et := thN_m lo.t.sm
    have ed := dgN_e lo.t
    have em : 1 ≤ m.toInt ∧ m.toInt ≤ 12 := by rw [e1, nIt (by omega)]; omega
    refine sX10_doing (MI0_lo h lo) (MIg_e lo.t h.g) (fun q => absurd em q) (fun _ q => absurd (es.symm.trans q) d1) (fun _ _ q => absurd (en.symm.trans q) d2) (fun u' q1 q2 _ _ S2 g2 he a7 hI => ?_)
    have eu : u' = u := nI_ij (q1.symm.trans e1) (by omega) (by omega)
    subst eu
    rw [er, et, ed] at hI
    rw [er, et, dnC_m lo.t.sm]
    rw [ed] at a7
    have hI2 := DgIs_m lo.t.sm hI
    have ok := nr0_ok h.m0 d1 d2
    have ok2 := nr0_b h.m0 d1 d2
    have hH := TH_doing h.1 ok ok2 hdl d1 ((g2.1 389 0 (by omega)).trans (lo.1 389 0 (by omega))) a7 (fun i => (g2.2.1 390 (by omega) i).trans (lo.2 390 (by omega) i)) (fun i => (g2.2.1 391 (by omega) i).trans (lo.2 391 (by omega) i)) hI2 b9 b5 b6 b281 hC2 hZ
    have e2' : EP S S2 := lo.p.tr (EP_of g2.n (by omega) (by omega))
    have e3' : ES S S2 := lo.s.tr (ES_of g2.n (fun a q1 q2 => by omega))
    refine k' _ (IV_of hH (PG_e e2' (h.2.1.fn g1 (by omega) (fun a j q1 q2 q3 => by omega) (fun a q1 q2 q3 => by omega))) (SH_e e3' (h.2.2.1.fn g1 (fun a j q1 q2 q3 => by omega) (fun a q1 q2 q3 => by omega))) ?_ (HiF.of g2 (fun a j q => by omega) (fun a q => by omega)) he ?_)
    · obtain ⟨l, z1, z2, z3⟩ := h.2.2.2.1
      exact ⟨l, z1.kept ((g2.1 389 9 (by omega)).trans (lo.1 389 9 (by omega))) (fun i => (g2.2.1 396 (by omega) i).trans (lo.2 396 (by omega) i)), z2.kept (g1.1 1 1 (by omega)) (fun i => g1.2 2 (by omega) i), z3⟩
    · have : dgN S2 = dgN S + 1 := by
        show (S2.1 389 7).toNatClampNeg = _
        rw [a7, nI_clamp (by omega)]
      have := h.2.2.2.2.2
      omega
end IB
