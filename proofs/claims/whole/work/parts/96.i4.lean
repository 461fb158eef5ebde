/-! a call on both: keep, text -/
theorem by_nat {x : Int32} (h : isBy x) : nI x.toNatClampNeg = x ∧ 32 ≤ x.toNatClampNeg ∧ x.toNatClampNeg ≤ 126 := by
  have h1 := h.1
  have h2 := h.2
  have e : (x.toNatClampNeg : Int) = x.toInt := by
    show ((x.toInt.toNat : Nat) : Int) = x.toInt
    omega
  refine ⟨?_, by omega, by omega⟩
  apply Int32.toInt_inj.mp
  rw [nIt (by omega)]
  exact e
theorem map_gD {l : List Int32} {a : Nat} (h : a < l.length) : (l.map Int32.toNatClampNeg).getD a 0 = (l.getD a 0).toNatClampNeg := by
  rw [List.getD_eq_getElem?_getD, List.getD_eq_getElem?_getD, List.getElem?_map, List.getElem?_eq_getElem h]
  rfl
section I4
variable {sc : SC} {S S1 S2 : ST} {n : Nat}
theorem TpT_of {l : List Int32} (h : TapIs S l) (hby : LBy l) (hl : l.length ≤ 60) : TpT S (l.map Int32.toNatClampNeg) := by
  refine ⟨⟨by rw [List.length_map]; exact h.1, fun a ha => ?_⟩, by rw [List.length_map]; exact hl, fun a ha => ?_⟩
  · rw [List.length_map] at ha
    rw [map_gD ha, (by_nat (hby _ (getD_memI ha))).1]
    exact h.2 a ha
  · rw [List.length_map] at ha
    rw [map_gD ha]
    exact (by_nat (hby _ (getD_memI ha))).2
theorem PrIs_up {a b k : Nat} {qs : List Nat} {v : Int32} (h : PrIs S a b qs) : PrIs (upX (upR S 408 (3 * k) 3 (fun i => S.2.1 a (b + i))) 389 28 v) 408 (3 * k) qs := by
  refine ⟨h.1, fun i hi => ?_, fun i h1 h2 => ?_⟩
  · have h3 := h.1
    show (upR S 408 (3 * k) 3 (fun i => S.2.1 a (b + i))).2.1 408 (3 * k + i) = _
    rw [upR_in (by omega), Nat.add_sub_cancel_left]
    exact h.2.1 i hi
  · show (upR S 408 (3 * k) 3 (fun i => S.2.1 a (b + i))).2.1 408 (3 * k + i) = _
    rw [upR_in (by omega), Nat.add_sub_cancel_left]
    exact h.2.2 i h1 h2
theorem PA_text (h : IV S n) : PA sc mX9_text mX10_text [] S n := by
  intro Q k
  obtain ⟨l, z1, z2, z3, z4⟩ := h.2.2.2.1
  have hT := TpT_of z1 z3 z4
  have hk4 := h.d.1.2
  refine sX9_text hT z2 z3 (by rw [List.length_map]) (fun a ha => ?_) hk4 h.pr.1 (fun b e S1 g1 t1 => k _ S1 (fun Q' k' => ?_)) (fun qs b e c S1 g1 t1 => k _ S1 (fun Q' k' => ?_)) (fun qs b e c S1 g1 t1 t2 t3 => k _ S1 (fun Q' k' => ?_))
  · rw [List.length_map] at ha
    rw [map_gD ha, (by_nat (z3 _ (getD_memI ha))).1]
  · have lo : LoF S S1 := LoF.of g1.n (fun a j q => by omega) (fun a q => by omega)
    have hT1 := TpT_of (z1.kept (S' := S1) (lo.1 389 9 (by omega)) (fun i => lo.2 396 (by omega) i)) z3 z4
    refine sX10_text hT1 (MId_e lo.p h.d) (fun b' e' S2 g2 t2 => ?_) (fun qs b' e' => by rw [e] at e'; cases e') (fun qs b' e' => by rw [e] at e'; cases e')
    have eb : b' = b := by rw [e] at e'; injection e' with _ e'; exact e'.symm
    rw [eb]
    exact k' S2 (IV_t h (g1.mono (fun a j q => q) (fun a q => Or.inl q)) (g2.mono (fun a j q => q) (fun a q => Or.inr q)) (TP_nil t2 t1))
  · have lo : LoF S S1 := LoF.of g1.n (fun a j q => by omega) (fun a q => by omega)
    have hT1 := TpT_of (z1.kept (S' := S1) (lo.1 389 9 (by omega)) (fun i => lo.2 396 (by omega) i)) z3 z4
    have ek : kpN S1 = kpN S := (congrArg kpN lo.p : kpN (pM S1) = kpN (pM S))
    refine sX10_text hT1 (MId_e lo.p h.d) (fun b' e' => by rw [e] at e'; cases e') (fun qs b' e' c' S2 g2 t2 => k' S2 ?_) (fun qs b' e' c' => by omega)
    exact IV_t h (g1.mono (fun a j q => q) (fun a q => Or.inl q)) (g2.mono (fun a j q => q) (fun a q => Or.inr q)) (TP_nil t2 t1)
  · have lo : LoF S S1 := LoF.of g1.n (fun a j q => by omega) (fun a q => by omega)
    have hT1 := TpT_of (z1.kept (S' := S1) (lo.1 389 9 (by omega)) (fun i => lo.2 396 (by omega) i)) z3 z4
    have ek : kpN S1 = kpN S := (congrArg kpN lo.p : kpN (pM S1) = kpN (pM S))
    refine sX10_text hT1 (MId_e lo.p h.d) (fun b' e' => by rw [e] at e'; cases e') (fun qs b' e' c' => by omega) (fun qs' b' e' c' S3 g2 t4 t5 => ?_)
    have eq : qs' = qs := by rw [e] at e'; injection e' with e' _; injection e' with e'; exact e'.symm
    subst eq
    rw [ek]
    refine k' _ ?_
    have g3 : Fr (fun a j => xX a j ∨ (a = 389 ∧ j = 28)) (fun a => zA a ∨ a = 408) S1 (upX (upR S3 408 (3 * kpN S) 3 (S3.2.1 409)) 389 28 (nI (kpN S + 1))) := (g2.mono (fun a j q => Or.inl q) (fun a q => Or.inl q)).tr (Fr.tr (Fr.upR (Or.inr rfl)) (Fr.upX (Or.inr ⟨rfl, rfl⟩)))
    have hP : PrIs (upX (upR S3 408 (3 * kpN S) 3 (S3.2.1 409)) 389 28 (nI (kpN S + 1))) 408 (3 * kpN S) qs' := by
      have := PrIs_up (k := kpN S) (v := nI (kpN S + 1)) t5
      simp only [Nat.zero_add] at this
      exact this
    have h408 : ∀ i, i < 3 * kpN S → (upX (upR S3 408 (3 * kpN S) 3 (S3.2.1 409)) 389 28 (nI (kpN S + 1))).2.1 408 i = S.2.1 408 i := fun i hi => by
      show (upR S3 408 (3 * kpN S) 3 (S3.2.1 409)).2.1 408 i = _
      rw [upR_n (by omega)]
      exact (g2.2.1 408 (by omega) i).trans (lo.2 408 (by omega) i)
    have t9 : (upX (upR S3 408 (3 * kpN S) 3 (S3.2.1 409)) 389 28 (nI (kpN S + 1))).1 389 9 = nI 0 := (upX_n (by omega)).trans t4
    generalize hS2 : upX (upR S3 408 (3 * kpN S) 3 (S3.2.1 409)) 389 28 (nI (kpN S + 1)) = S2 at *
    have h28 : S2.1 389 28 = nI (kpN S + 1) := by rw [← hS2]; exact upX_s
    have ok := rdA_ok hT e
    have e1 : ET S S2 := lo.t.tr (ET_of g3.n (by omega) (by omega) (fun a q1 q2 => by omega))
    have e3 : ES S S2 := lo.s.tr (ES_of g3.n (fun a q1 q2 => by omega))
    refine IV_of (S1 := S1) (TH_e e1 (h.1.fn g1.n (by omega) (fun a j q1 q2 q3 => by omega) (fun a q1 q2 q3 => by omega) (by omega) (by omega) (h.cf.fx h.a.1.2 g1 (by omega) (fun a j q1 q2 => by omega) (fun a q1 q2 => by omega)) (h.cs.fn (g1.1 0 6 (by omega))))) (PG_add h.2.1 c h28 h408 hP ok.1 ok.2 t2 t3 (fun p hp => ⟨g1.1 _ _ (by omega), fun i => g1.2.1 _ (by omega) i⟩)) (SH_e e3 (h.2.2.1.fn g1.n (fun a j q1 q2 q3 => by omega) (fun a q1 q2 q3 => by omega))) (TP_nil t9 t1) (HiF.of g3 (fun a j q => by omega) (fun a q => by omega)) ?_ ?_
    · obtain ⟨B, b1, b2, b3⟩ := MIe_lo h.e lo
      exact ⟨B, ⟨(g3.1 389 18 (by omega)).trans b1.1, fun i hi => ⟨(g3.2.1 401 (by omega) i).trans (b1.2 i hi).1, (g3.2.1 402 (by omega) i).trans (b1.2 i hi).2⟩⟩, fun x hx => (g3.2.1 403 (by omega) x).trans (b2 x hx), b3⟩
    · rw [dgN_e e1]
      exact Nat.le_succ_of_le h.2.2.2.2.2
theorem PA_keep (h : IV S n) : PA sc mX9_keep mX10_keep [] S n := by
  intro Q k
  have hk4 := h.d.1.2
  refine sX9_keep h.m0 hk4 h.th h.cf h.pr.1 (fun c => k _ S (fun Q' k' => ?_)) (fun c1 c2 S1 g1 f1 => k _ S1 (fun Q' k' => ?_)) (fun c1 c2 c3 S1 g1 f1 => k _ S1 (fun Q' k' => ?_)) (fun c1 c2 c3 S0 S1 g0 f0 g1 t2 t3 => k _ S1 (fun Q' k' => ?_))
  · exact sX10_keep h.m0 h.d (fun _ => k' S h.mono) (fun q => absurd c q) (fun q => absurd c q) (fun q => absurd c q)
  · have lo := qLo (fq_qu g1)
    have es := shL_m lo.t.sm 0
    have en := neL_m lo.t.sm
    refine sX10_keep (MI0_lo h lo) (MId_e lo.p h.d) (fun q => absurd (es.symm.trans q) c1) (fun _ _ S2 g2 e2 => k' S2 ?_) (fun _ q => absurd (en.trans c2) q) (fun _ q => absurd (en.trans c2) q)
    exact IV_quiet h (fq_qu g1) f1 (h.cs.fn (g1.1 0 6 (by omega))) g2 e2
  · have lo := qLo (fq_qu g1)
    have es := shL_m lo.t.sm 0
    have en := neL_m lo.t.sm
    have ek : kpN S1 = kpN S := (congrArg kpN lo.p : kpN (pM S1) = kpN (pM S))
    refine sX10_keep (MI0_lo h lo) (MId_e lo.p h.d) (fun q => absurd (es.symm.trans q) c1) (fun _ q => absurd (en.symm.trans q) c2) (fun _ _ _ S2 g2 e2 => k' S2 ?_) (fun _ _ q => by omega)
    exact IV_quiet h (fq_qu g1) f1 (h.cs.fn (g1.1 0 6 (by omega))) g2 e2
  · have gA : FrN (fun a j => fqX a j ∨ kpX (kpN S) a j) (fun a => mwA a ∨ kpA (kpN S) a) S S1 := ⟨fun a j q => (g1.1 a j (fun z => q (Or.inr z))).trans (g0.1 a j (fun z => q (Or.inl z))), fun a q j => (g1.2.1 a (fun z => q (Or.inr z)) j).trans (g0.2 a (fun z => q (Or.inl z)) j)⟩
    have lo : LoF S S1 := LoF.of gA (fun a j q => by omega) (fun a q => by omega)
    have es := shL_m lo.t.sm 0
    have en := neL_m lo.t.sm
    have er := nr0_m lo.t.sm
    have ek : kpN S1 = kpN S := (congrArg kpN lo.p : kpN (pM S1) = kpN (pM S))
    refine sX10_keep (MI0_lo h lo) (MId_e lo.p h.d) (fun q => absurd (es.symm.trans q) c1) (fun _ q => absurd (en.symm.trans q) c2) (fun _ _ q => by omega) (fun _ _ _ S3 g2 e3 t5 => ?_)
    rw [er] at t5
    rw [ek]
    refine k' _ ?_
    have g3 : Fr (fun a j => wX a j ∨ (a = 389 ∧ j = 28)) (fun a => wA a ∨ a = 408) S1 (upX (upR S3 408 (3 * kpN S) 3 (S3.2.1 404)) 389 28 (nI (kpN S + 1))) := (g2.mono (fun a j q => Or.inl q) (fun a q => Or.inl q)).tr (Fr.tr (Fr.upR (Or.inr rfl)) (Fr.upX (Or.inr ⟨rfl, rfl⟩)))
    have hP : PrIs (upX (upR S3 408 (3 * kpN S) 3 (S3.2.1 404)) 389 28 (nI (kpN S + 1))) 408 (3 * kpN S) (nr0 S) := by
      have := PrIs_up (k := kpN S) (v := nI (kpN S + 1)) t5
      simp only [Nat.zero_add] at this
      exact this
    have h408 : ∀ i, i < 3 * kpN S → (upX (upR S3 408 (3 * kpN S) 3 (S3.2.1 404)) 389 28 (nI (kpN S + 1))).2.1 408 i = S.2.1 408 i := fun i hi => by
      show (upR S3 408 (3 * kpN S) 3 (S3.2.1 404)).2.1 408 i = _
      rw [upR_n (by omega)]
      exact (g2.2.1 408 (by omega) i).trans (lo.2 408 (by omega) i)
    have he : MIe (upX (upR S3 408 (3 * kpN S) 3 (S3.2.1 404)) 389 28 (nI (kpN S + 1))) := by
      obtain ⟨B, b1, b2, b3⟩ := e3
      refine ⟨B, ⟨(upX_n (by omega)).trans b1.1, fun i hi => ⟨?_, ?_⟩⟩, fun x hx => ?_, b3⟩
      · show (upR S3 408 (3 * kpN S) 3 (S3.2.1 404)).2.1 401 i = _
        rw [upR_n (by omega)]; exact (b1.2 i hi).1
      · show (upR S3 408 (3 * kpN S) 3 (S3.2.1 404)).2.1 402 i = _
        rw [upR_n (by omega)]; exact (b1.2 i hi).2
      · show (upR S3 408 (3 * kpN S) 3 (S3.2.1 404)).2.1 403 x = _
        rw [upR_n (by omega)]; exact b2 x hx
    generalize hS2 : upX (upR S3 408 (3 * kpN S) 3 (S3.2.1 404)) 389 28 (nI (kpN S + 1)) = S2 at *
    have h28 : S2.1 389 28 = nI (kpN S + 1) := by rw [← hS2]; exact upX_s
    have ok := nr0_ok h.m0 c1 c2
    have ok2 := nr0_b h.m0 c1 c2
    have e1 : ET S S2 := lo.t.tr (ET_of g3.n (by omega) (by omega) (fun a q1 q2 => by omega))
    have e5 : ES S S2 := lo.s.tr (ES_of g3.n (fun a q1 q2 => by omega))
    have f1 : CIf S S1 := f0.fx h.a.1.2 g1 (by omega) (fun a j q1 q2 => by omega) (fun a q1 q2 => by omega)
    refine IV_of (S1 := S1) (TH_e e1 (h.1.fn gA (by omega) (fun a j q1 q2 q3 => by omega) (fun a q1 q2 q3 => by omega) (by omega) (by omega) f1 (h.cs.fn (gA.1 0 6 (by omega))))) (PG_add h.2.1 c3 h28 h408 hP ok ok2 t2 t3 (fun p hp => ⟨gA.1 _ _ (by omega), fun i => gA.2 _ (by omega) i⟩)) (SH_e e5 (h.2.2.1.fn gA (fun a j q1 q2 q3 => by omega) (fun a q1 q2 q3 => by omega))) ?_ (HiF.of g3 (fun a j q => by omega) (fun a q => by omega)) he ?_
    · obtain ⟨l, z1, z2, z3⟩ := h.2.2.2.1
      exact ⟨l, z1.kept ((g3.1 389 9 (by omega)).trans (lo.1 389 9 (by omega))) (fun i => (g3.2.1 396 (by omega) i).trans (lo.2 396 (by omega) i)), z2.kept (gA.1 1 1 (by omega)) (fun i => gA.2 2 (by omega) i), z3⟩
    · rw [dgN_e e1]
      exact Nat.le_succ_of_le h.2.2.2.2.2
end I4
