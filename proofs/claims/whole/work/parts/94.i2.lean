/-! a call on both: the quiet kinds -/
/-- the class's method answers x, and the model's then answers x too, and the invariant holds again -/
def PA (sc : SC) (z9 z10 : MI) (as : List AV) (S : ST) (n : Nat) : Prop := ∀ Q : Option AV → HM → Prop, (∀ (x : Int32) (S1 : ST), (∀ Q' : Option AV → HM → Prop, (∀ S2, IV S2 (n + 1) → Q' (some (aI x)) (mk S2)) → CT sc z10 (aR 389 :: as) (mk S1) Q') → Q (some (aI x)) (mk S1)) → CT sc z9 (aR 0 :: as) (mk S) Q
def PAL (sc : SC) (z9 z10 : MI) (as : List AV) (S : ST) (n : Nat) : Prop := ∀ Q : Option AV → HM → Prop, (∀ (x : Int64) (S1 : ST), (∀ Q' : Option AV → HM → Prop, (∀ S2, IV S2 (n + 1) → Q' (some (aL x)) (mk S2)) → CT sc z10 (aR 389 :: as) (mk S1) Q') → Q (some (aL x)) (mk S1)) → CT sc z9 (aR 0 :: as) (mk S) Q
section I2
variable {sc : SC} {S S1 S2 : ST} {n : Nat}
theorem IV.a (h : IV S n) : MIa S := h.1.1.1
theorem IV.b (h : IV S n) : MIb S := h.1.1.2.1
theorem IV.g (h : IV S n) : MIg S := h.1.1.2.2.1
theorem IV.l4 (h : IV S n) : (shL S 0).length ≤ 4 := h.1.1.2.2.2.1
theorem IV.un (h : IV S n) : UNe S := h.1.1.2.2.2.2
theorem IV.th (h : IV S n) : CTh S S := h.1.2.1
theorem IV.dg (h : IV S n) : CDg S S := h.1.2.2.1
theorem IV.cf (h : IV S n) : CIf S S := h.1.2.2.2.1
theorem IV.cs (h : IV S n) : CIs S S := h.1.2.2.2.2
theorem IV.d (h : IV S n) : MId S := h.2.1.1
theorem IV.pr (h : IV S n) : CPr S S := h.2.1.2
theorem IV.c (h : IV S n) : MIc S := h.2.2.1.1
theorem IV.sh (h : IV S n) : CSh S S := h.2.2.1.2
theorem IV.e (h : IV S n) : MIe S := h.2.2.2.2.1
theorem IV.m0 (h : IV S n) : MI0 S := ⟨h.a, h.b, h.e, h.l4⟩
theorem IV.mono (h : IV S n) : IV S (n + 1) := ⟨h.1, h.2.1, h.2.2.1, h.2.2.2.1, h.2.2.2.2.1, Nat.le_succ_of_le h.2.2.2.2.2⟩
theorem qLo (g : FrN quX quA S S1) : LoF S S1 := LoF.of g (fun a j q => by omega) (fun a q => by omega)
theorem MI0_lo (h : IV S n) (g : LoF S S1) : MI0 S1 := ⟨MIa_e g.t h.a, MIb_e g.t h.b, MIe_lo h.e g, by rw [shL_m g.t.sm]; exact h.l4⟩
theorem IV_quiet (h : IV S n) (g9 : FrN quX quA S S1) (hF : CIf S S1) (hs : CIs S S1) (g : Fr wX wA S1 S2) (he : MIe S2) : IV S2 (n + 1) := by
  have lo := qLo g9
  have e1 : ET S S2 := lo.t.tr (ET_of g.n (by omega) (by omega) (fun a q1 q2 => by omega))
  have e2 : EP S S2 := lo.p.tr (EP_of g.n (by omega) (by omega))
  have e3 : ES S S2 := lo.s.tr (ES_of g.n (fun a q1 q2 => by omega))
  refine IV_of (S1 := S1) (TH_e e1 (h.1.fn g9 (by omega) (fun a j q1 q2 => by omega) (fun a q1 q2 => by omega) (by omega) (by omega) hF hs)) (PG_e e2 (h.2.1.fn g9 (by omega) (fun a j q1 q2 => by omega) (fun a q1 q2 => by omega))) (SH_e e3 (h.2.2.1.fn g9 (fun a j q1 q2 => by omega) (fun a q1 q2 => by omega))) ?_ (HiF.of g (fun a j q => by omega) (fun a q => by omega)) he ?_
  · obtain ⟨l, z1, z2, z3⟩ := h.2.2.2.1
    exact ⟨l, z1.kept ((g.1 389 9 (by omega)).trans (lo.1 389 9 (by omega))) (fun i => (g.2.1 396 (by omega) i).trans (lo.2 396 (by omega) i)), z2.kept (g9.1 1 1 (by omega)) (fun i => g9.2 2 (by omega) i), z3⟩
  · rw [dgN_e e1]
    exact Nat.le_succ_of_le h.2.2.2.2.2
theorem sc_qu (g : Fr scX scA S S1) : FrN quX quA S S1 := ⟨fun a j q => g.1 a j (fun z => q (Or.inr (Or.inl z))), fun a q j => g.2.1 a (fun z => q (Or.inl z)) j⟩
theorem fq_qu (g : FrN fqX mwA S S1) : FrN quX quA S S1 := ⟨fun a j q => g.1 a j (fun z => q (by omega)), fun a q j => g.2 a (fun z => q (by omega)) j⟩
theorem sl_qu (g : FrN slX mwA S S1) : FrN quX quA S S1 := ⟨fun a j q => g.1 a j (fun z => q (by omega)), fun a q j => g.2 a (fun z => q (by omega)) j⟩
theorem IV_sc (h : IV S n) (g1 : Fr scX scA S S1) (g2 : Fr oX oA S1 S2) : IV S2 (n + 1) := by
  refine IV_quiet h (sc_qu g1) (h.cf.sc1 h.a.1.2 g1) (h.cs.fn (g1.1 0 6 (by omega))) (g2.mono (fun a j q => ⟨q.1, Or.inl q.2⟩) (fun a q => by omega)) ?_
  obtain ⟨B, b1, b2, b3⟩ := MIe_lo h.e (qLo (sc_qu g1))
  exact ⟨B, ⟨(g2.1 389 18 (by omega)).trans b1.1, fun i hi => ⟨(g2.2.1 401 (by omega) i).trans (b1.2 i hi).1, (g2.2.1 402 (by omega) i).trans (b1.2 i hi).2⟩⟩, fun x hx => (g2.2.1 403 (by omega) x).trans (b2 x hx), b3⟩
theorem PA_byteAt {t i : Int32} (h : IV S n) : PA sc mX9_byteAt mX10_byteAt [aI t, aI i] S n := fun Q k => sX9_byteAt h.a h.th (k _ S (fun Q' k' => sX10_byteAt h.a (k' S h.mono)))
theorem PA_place {t i : Int32} (h : IV S n) : PA sc mX9_place mX10_place [aI t, aI i] S n := fun Q k => sX9_place h.a h.th (k _ S (fun Q' k' => sX10_place h.a (k' S h.mono)))
theorem PA_end {t i : Int32} (h : IV S n) : PA sc mX9_end mX10_end [aI t, aI i] S n := fun Q k => sX9_end h.a h.b h.th (k _ S (fun Q' k' => sX10_end h.a h.b (k' S h.mono)))
theorem PA_state {t : Int32} (h : IV S n) : PA sc mX9_state mX10_state [aI t] S n := fun Q k => sX9_state h.a h.th (k _ S (fun Q' k' => sX10_state h.a h.b (k' S h.mono)))
theorem PA_kept {p w : Int32} (h : IV S n) : PA sc mX9_kept mX10_kept [aI p, aI w] S n := fun Q k => sX9_kept h.d.1.2 h.pr (k _ S (fun Q' k' => sX10_kept h.d (k' S h.mono)))
theorem PA_count {w : Int32} (h : IV S n) : PA sc mX9_count mX10_count [aI w] S n := fun Q k => sX9_count h.a h.b h.th h.pr (k _ S (fun Q' k' => sX10_count h.a h.d (k' S h.mono)))
theorem PA_made {t c i : Int32} (h : IV S n) : PA sc mX9_made mX10_made [aI t, aI c, aI i] S n := fun Q k => sX9_made h.a h.th (fun S1 g1 => k _ S1 (fun Q' k' => sX10_made (MIa_e (qLo (sc_qu g1)).t h.a) (fun S2 g2 => by
  rw [made_m (qLo (sc_qu g1)).t]
  exact k' S2 (IV_sc h g1 g2))))
theorem MId_e {A A' : ST} (h : EP A A') (q : MId A) : MId A' := by
  have q : MId (pM A) := q
  show MId (pM A')
  rw [show pM A' = pM A from h]; exact q
theorem MIc_e {A A' : ST} (h : ES A A') (q : MIc A) : MIc A' := by
  have q : MIc (sM A) := q
  show MIc (sM A')
  rw [show sM A' = sM A from h]; exact q
theorem PA_run {p t i : Int32} (h : IV S n) : PA sc mX9_run mX10_run [aI p, aI t, aI i] S n := fun Q k => sX9_run h.a h.d.1.2 h.th h.pr (fun S1 g1 => k _ S1 (fun Q' k' => sX10_run (MIa_e (qLo (sc_qu g1)).t h.a) (MId_e (qLo (sc_qu g1)).p h.d) (fun S2 g2 => by
  rw [run_m (qLo (sc_qu g1)).t (qLo (sc_qu g1)).p]
  exact k' S2 (IV_sc h g1 g2))))
theorem PA_fitting {m : Int32} (h : IV S n) : PAL sc mX9_fitting mX10_fitting [aI m] S n := fun Q k => sX9_fitting h.m0 h.th h.cf (fun S1 g1 f1 => k _ S1 (fun Q' k' => sX10_fitting (MI0_lo h (qLo (fq_qu g1))) (fun S2 g2 e2 => by
  rw [fitting_m (qLo (fq_qu g1)).t.sm]
  exact k' S2 (IV_quiet h (fq_qu g1) f1 (h.cs.fn (g1.1 0 6 (by omega))) g2 e2))))
theorem PA_shortest {w : Int32} (h : IV S n) : PA sc mX9_shortest mX10_shortest [aI w] S n := fun Q k => sX9_shortest h.m0 h.th h.cf (fun S1 g1 f1 => k _ S1 (fun Q' k' => sX10_shortest (MI0_lo h (qLo (fq_qu g1))) (fun S2 g2 e2 => by
  rw [shortest_m (qLo (fq_qu g1)).t.sm]
  exact k' S2 (IV_quiet h (fq_qu g1) f1 (h.cs.fn (g1.1 0 6 (by omega))) g2 e2))))
theorem PA_paper {t i : Int32} (h : IV S n) : PA sc mX9_paper mX10_paper [aI t, aI i] S n := fun Q k => sX9_paper h.m0 h.th h.cf (fun S1 g1 g6 f1 => k _ S1 (fun Q' k' => sX10_paper (MI0_lo h (qLo g1)) (fun S2 g2 e2 => by
  rw [paper_m (qLo g1).t.sm]
  exact k' S2 (IV_quiet h g1 f1 (h.cs.fn g6) g2 e2))))
theorem PA_odd {t : Int32} (h : IV S n) : PA sc mX9_odd mX10_odd [aI t] S n := fun Q k => sX9_odd h.m0 h.th h.cf (fun S1 g1 g6 f1 => k _ S1 (fun Q' k' => sX10_odd (MI0_lo h (qLo g1)) (fun S2 g2 e2 => by
  rw [odd_m (qLo g1).t.sm]
  exact k' S2 (IV_quiet h g1 f1 (h.cs.fn g6) g2 e2))))
theorem PA_differs {t : Int32} (h : IV S n) : PA sc mX9_differs mX10_differs [aI t] S n := fun Q k => sX9_differs h.m0 h.th h.cf (fun S1 g1 g6 f1 => k _ S1 (fun Q' k' => sX10_differs (MI0_lo h (qLo g1)) (fun S2 g2 e2 => by
  rw [differs_m (qLo g1).t.sm]
  exact k' S2 (IV_quiet h g1 f1 (h.cs.fn g6) g2 e2))))
theorem PA_settle (h : IV S n) : PA sc mX9_settle mX10_settle [] S n := fun Q k => sX9_settle h.m0 h.th h.cf (fun S1 g1 g6 f1 => k _ S1 (fun Q' k' => sX10_settle (MI0_lo h (qLo g1)) (fun S2 g2 e2 => by
  rw [settle_m (qLo g1).t.sm]
  exact k' S2 (IV_quiet h g1 f1 (h.cs.fn g6) g2 e2))))
theorem PA_otherwise (h : IV S n) : PA sc mX9_otherwise mX10_otherwise [] S n := fun Q k => sX9_otherwise h.m0 h.th h.cf (fun S1 g1 g6 f1 => k _ S1 (fun Q' k' => sX10_otherwise (MI0_lo h (qLo g1)) (fun S2 g2 e2 => by
  rw [otherwise_m (qLo g1).t.sm]
  exact k' S2 (IV_quiet h g1 f1 (h.cs.fn g6) g2 e2))))
theorem PA_slips (h : IV S n) : PA sc mX9_slips mX10_slips [] S n := fun Q k => sX9_slips h.m0 h.th h.cf h.cs (fun S1 g1 f1 s1 => k _ S1 (fun Q' k' => sX10_slips (MI0_lo h (qLo (sl_qu g1))) (fun S2 g2 e2 => by
  rw [slips_m (qLo (sl_qu g1)).t.sm]
  exact k' S2 (IV_quiet h (sl_qu g1) f1 s1 g2 e2))))
end I2
