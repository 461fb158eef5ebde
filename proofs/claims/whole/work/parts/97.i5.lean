/-! a call on both: sheet, drop, item, put -/
theorem nI_ij {a b : Nat} (h : nI a = nI b) (ha : a < 2147483648) (hb : b < 2147483648) : a = b := by
  have := congrArg Int32.toNatClampNeg h
  rw [nI_clamp ha, nI_clamp hb] at this
  exact this
theorem nat_n {x : Int32} (h : 0 ≤ x.toInt) : nI x.toNatClampNeg = x ∧ (x.toNatClampNeg : Int) = x.toInt := by
  have h2 : x.toInt < 2147483648 := Int32.toInt_lt x
  have e : (x.toNatClampNeg : Int) = x.toInt := by
    show ((x.toInt.toNat : Nat) : Int) = x.toInt
    omega
  refine ⟨?_, e⟩
  apply Int32.toInt_inj.mp
  rw [nIt (by omega)]
  exact e
section I5
variable {sc : SC} {S S1 S2 : ST} {n : Nat}
abbrev s9X (k : Nat) (a j : Nat) : Prop := (a = 3 ∧ j = 1) ∨ (a = 381 + 2 * k)
abbrev s9A (k : Nat) (a : Nat) : Prop := a = 4 ∨ a = 381 + 2 * k + 1
abbrev s0A (a : Nat) : Prop := a = 397 ∨ (410 ≤ a ∧ a ≤ 412)
theorem IV_s {k : Nat} (h : IV S n) (hk : k < 4) (g9 : Fr (s9X k) (s9A k) S S1) (g : Fr oX s0A S1 S2) (hS : SH S2 S1) : IV S2 (n + 1) := by
  have lo : LoF S S1 := LoF.of g9.n (fun a j q => by omega) (fun a q => by omega)
  have e1 : ET S S2 := lo.t.tr (ET_of g.n (by omega) (by omega) (fun a q1 q2 => by omega))
  have e2 : EP S S2 := lo.p.tr (EP_of g.n (by omega) (by omega))
  refine IV_of (S1 := S1) (TH_e e1 (h.1.fn g9.n (by omega) (fun a j q1 q2 q3 => by omega) (fun a q1 q2 q3 => by omega) (by omega) (by omega) (h.cf.fx h.a.1.2 g9 (by omega) (fun a j q1 q2 => by omega) (fun a q1 q2 => by omega)) (h.cs.fn (g9.1 0 6 (by omega))))) (PG_e e2 (h.2.1.fn g9.n (by omega) (fun a j q1 q2 q3 => by omega) (fun a q1 q2 q3 => by omega))) hS ?_ (HiF.of g (fun a j q => by omega) (fun a q => by omega)) ?_ ?_
  · obtain ⟨l, z1, z2, z3⟩ := h.2.2.2.1
    exact ⟨l, z1.kept ((g.1 389 9 (by omega)).trans (lo.1 389 9 (by omega))) (fun i => (g.2.1 396 (by omega) i).trans (lo.2 396 (by omega) i)), z2.kept (g9.1 1 1 (by omega)) (fun i => g9.2.1 2 (by omega) i), z3⟩
  · obtain ⟨B, b1, b2, b3⟩ := MIe_lo h.e lo
    exact ⟨B, ⟨(g.1 389 18 (by omega)).trans b1.1, fun i hi => ⟨(g.2.1 401 (by omega) i).trans (b1.2 i hi).1, (g.2.1 402 (by omega) i).trans (b1.2 i hi).2⟩⟩, fun x hx => (g.2.1 403 (by omega) x).trans (b2 x hx), b3⟩
  · rw [dgN_e e1]
    exact Nat.le_succ_of_le h.2.2.2.2.2
/-- the sheet k is new, the others are as they were -/
theorem SH_upd {k : Nat} (h : SH S S) (hk : k < 4) (g9 : Fr (s9X k) (s9A k) S S1) (g1 : ∀ j, j < 4 → ¬ j = k → S2.2.1 410 j = S.2.1 410 j ∧ S2.2.1 411 j = S.2.1 411 j ∧ ∀ i, i < 20 → S2.2.1 412 (20 * j + i) = S.2.1 412 (20 * j + i))
    (m : (S2.2.1 411 k = nI (rsN S2 k) ∧ rsN S2 k ≤ 20) ∧ -1 ≤ (S2.2.1 410 k).toInt ∧ (S2.2.1 410 k).toInt ≤ 2) (c : CS1 S2 S1 k) : SH S2 S1 := by
  refine ⟨fun j hj => ?_, fun j hj => ?_⟩
  · by_cases q : j = k
    · rw [q]; exact m
    · obtain ⟨z1, z2, z3⟩ := g1 j hj q
      have := h.1 j hj
      unfold rsN at *
      rw [z1, z2]
      exact this
  · by_cases q : j = k
    · rw [q]; exact c
    · obtain ⟨z1, z2, z3⟩ := g1 j hj q
      obtain ⟨y1, y2, y3⟩ := h.2 j hj
      refine ⟨?_, fun w => ?_, fun i hi => ?_⟩
      · rw [z1]; exact (g9.1 _ _ (by omega)).trans y1
      · rw [z1] at w
        rw [z2]; exact (g9.1 _ _ (by omega)).trans (y2 w)
      · rw [z3 i hi]; exact (g9.2.1 _ (by omega) i).trans (y3 i hi)
theorem PA_sheet {s l m : Int32} (h : IV S n) : PA sc mX9_sheet mX10_sheet [aI s, aI l, aI m] S n := by
  intro Q k
  refine sX9_sheet (fun c => k _ S (fun Q' k' => ?_)) (fun c1 c2 => k _ S (fun Q' k' => ?_)) (fun b e1 e2 c1 c2 c3 S1 g1 t1 t2 t3 => k _ S1 (fun Q' k' => ?_))
  · refine sX10_sheet (fun _ => k' S h.mono) (fun d1 d2 => ?_) (fun d1 d2 d3 => ?_)
    · rcases c with c | c
      · rw [d1] at c; cases c
      · omega
    · rcases c with c | c
      · rw [d1] at c; cases c
      · omega
  · refine sX10_sheet (fun c => ?_) (fun _ _ => k' S h.mono) (fun d1 d2 d3 => by omega)
    rcases c with c | c
    · rw [c1] at c; cases c
    · omega
  · refine sX10_sheet (fun c => ?_) (fun d1 d2 => by omega) (fun d1 d2 d3 => k' _ ?_)
    · rcases c with c | c
      · rw [c1] at c; cases c
      · omega
    · have eb : s.toNatClampNeg = b := by rw [e1, nI_clamp (by omega)]
      rw [eb]
      have hl := (isShB_iff.mp c1).2
      obtain ⟨y1, y2⟩ := nat_n c2
      have g9 : Fr (s9X b) (s9A b) S S1 := g1.mono (fun a j q => Or.inr q.1) (fun a q => Or.inr q)
      have lo : LoF S S1 := LoF.of g9.n (fun a j q => by omega) (fun a q => by omega)
      have x0 : (shS S1 b l m).2.1 410 b = l := by
        show (upR (upI (upI S1 410 b l) 411 b m) 412 (20 * b) 20 (fun _ => nI 0)).2.1 410 b = l
        rw [upR_n (by omega), upI_n (by omega), upI_s]
      have x1 : (shS S1 b l m).2.1 411 b = m := by
        show (upR (upI (upI S1 410 b l) 411 b m) 412 (20 * b) 20 (fun _ => nI 0)).2.1 411 b = m
        rw [upR_n (by omega), upI_s]
      refine IV_s h e2 g9 ?_ (SH_upd h.2.2.1 e2 g9 (fun j hj q => ⟨?_, ?_, fun i hi => ?_⟩) ?_ ⟨?_, fun _ => ?_, fun i hi => ?_⟩)
      · exact Fr.tr (Fr.tr (Fr.upI (Or.inr ⟨by omega, by omega⟩)) (Fr.upI (Or.inr ⟨by omega, by omega⟩))) (Fr.upR (Or.inr ⟨by omega, by omega⟩))
      · show (upR (upI (upI S1 410 b l) 411 b m) 412 (20 * b) 20 (fun _ => nI 0)).2.1 410 j = _
        rw [upR_n (by omega), upI_n (by omega), upI_n (by omega)]
        exact lo.2 410 (by omega) j
      · show (upR (upI (upI S1 410 b l) 411 b m) 412 (20 * b) 20 (fun _ => nI 0)).2.1 411 j = _
        rw [upR_n (by omega), upI_n (by omega), upI_n (by omega)]
        exact lo.2 411 (by omega) j
      · show (upR (upI (upI S1 410 b l) 411 b m) 412 (20 * b) 20 (fun _ => nI 0)).2.1 412 (20 * j + i) = _
        rw [upR_n (by omega), upI_n (by omega), upI_n (by omega)]
        exact lo.2 412 (by omega) _
      · have er : rsN (shS S1 b l m) b = m.toNatClampNeg := by unfold rsN; rw [x1]
        rw [er, x0, x1]
        exact ⟨⟨y1.symm, by omega⟩, by omega, by omega⟩
      · rw [x0]; exact t1
      · rw [x1]; exact t2
      · rw [t3 i hi]
        show _ = (upR (upI (upI S1 410 b l) 411 b m) 412 (20 * b) 20 (fun _ => nI 0)).2.1 412 (20 * b + i)
        rw [upR_in (by omega)]
theorem PA_drop {s : Int32} (h : IV S n) : PA sc mX9_drop mX10_drop [aI s] S n := by
  intro Q k
  refine sX9_drop h.c h.sh (fun c => k _ S (fun Q' k' => ?_)) (fun c1 c2 => k _ S (fun Q' k' => ?_)) (fun b e1 e2 e3 c1 => k _ _ (fun Q' k' => ?_))
  · exact sX10_drop h.c (fun _ => k' S h.mono) (fun d => absurd d c) (fun d => absurd d c)
  · exact sX10_drop h.c (fun c => absurd c1 c) (fun _ _ => k' S h.mono) (fun d1 d2 => by omega)
  · have g9 : Fr (s9X b) (s9A b) S (upX (upX S (381 + 2 * b) 2 (-1)) (381 + 2 * b) 1 (nI 0)) := Fr.tr (Fr.upX (Or.inr rfl)) (Fr.upX (Or.inr rfl))
    have hs : 0 ≤ s.toInt ∧ s.toInt ≤ 3 := by rw [e1, nIt (by omega)]; omega
    have lo : LoF S (upX (upX S (381 + 2 * b) 2 (-1)) (381 + 2 * b) 1 (nI 0)) := LoF.of g9.n (fun a j q => by omega) (fun a q => by omega)
    refine sX10_drop (MIc_e lo.s h.c) (fun c => absurd hs c) (fun d1 d2 => ?_) (fun d1 d2 => ?_)
    · rw [e3] at d2
      have d2 : (S.2.1 410 b).toInt < 0 := d2
      omega
    · rw [e3]
      refine k' _ (IV_s h e2 g9 (Fr.upI (Or.inr ⟨by omega, by omega⟩)) (SH_upd h.2.2.1 e2 g9 (fun j hj q => ⟨upI_n (by omega), upI_n (by omega), fun i hi => upI_n (by omega)⟩) ?_ ⟨?_, fun w => ?_, fun i hi => ?_⟩))
      · have er : rsN (upI (upX (upX S (381 + 2 * b) 2 (-1)) (381 + 2 * b) 1 (nI 0)) 410 b (-1)) b = rsN S b := by unfold rsN; rw [upI_n (by omega)]; rfl
        rw [er, upI_s, upI_n (by omega)]
        exact ⟨(h.c b e2).1, by decide, by decide⟩
      · rw [upI_s, upX_n (by omega), upX_s]
      · rw [upI_s] at w
        exact absurd w (by decide)
      · rw [upI_n (by omega)]
        exact (h.sh b e2).2.2 i hi
theorem PA_item {s l i v : Int32} (h : IV S n) : PA sc mX9_item mX10_item [aI s, aI l, aI i, aI v] S n := by
  intro Q k
  refine sX9_item h.c h.sh (fun c => k _ S (fun Q' k' => ?_)) (fun c1 c2 => k _ S (fun Q' k' => ?_)) (fun c1 c2 c3 => k _ S (fun Q' k' => ?_)) (fun b e1 e2 e3 c1 c2 c3 => k _ _ (fun Q' k' => ?_))
  · exact sX10_item h.c (fun _ => k' S h.mono) (fun d => by rw [d] at c; cases c) (fun d => by rw [d] at c; cases c) (fun d => by rw [d] at c; cases c)
  · exact sX10_item h.c (fun d => by rw [d] at c1; cases c1) (fun _ _ => k' S h.mono) (fun _ d => absurd d c2) (fun _ d => absurd d c2)
  · exact sX10_item h.c (fun d => by rw [d] at c1; cases c1) (fun _ d => absurd c2 d) (fun _ _ _ => k' S h.mono) (fun _ _ d => absurd d c3)
  · have g9 : Fr (s9X b) (s9A b) S (upI S (381 + 2 * b + 1) i.toNatClampNeg (laneV l.toNatClampNeg v)) := Fr.upI (Or.inr rfl)
    have lo : LoF S (upI S (381 + 2 * b + 1) i.toNatClampNeg (laneV l.toNatClampNeg v)) := LoF.of g9.n (fun a j q => by omega) (fun a q => by omega)
    have er : ∀ j, rsN (upI S (381 + 2 * b + 1) i.toNatClampNeg (laneV l.toNatClampNeg v)) j = rsN S j := fun j => by unfold rsN; rw [upI_n (by omega)]
    have r20 := (h.c b e2).1.2
    obtain ⟨y1, y2⟩ := nat_n c3.1
    refine sX10_item (MIc_e lo.s h.c) (fun d => by rw [d] at c1; cases c1) (fun _ d => ?_) (fun _ _ d => ?_) (fun _ _ _ => k' _ ?_)
    · rw [e3, lo.2 410 (by omega)] at d
      exact absurd c2 d
    · rw [e3, er] at d
      exact absurd c3 d
    · rw [e3]
      refine IV_s h e2 g9 (Fr.upI (Or.inr ⟨by omega, by omega⟩)) (SH_upd h.2.2.1 e2 g9 (fun j hj q => ⟨(upI_n (by omega)).trans (lo.2 410 (by omega) j), (upI_n (by omega)).trans (lo.2 411 (by omega) j), fun i' hi => (upI_n (by omega)).trans (lo.2 412 (by omega) _)⟩) ?_ ⟨?_, fun w => ?_, fun i' hi => ?_⟩)
      · have er2 : rsN (upI (upI S (381 + 2 * b + 1) i.toNatClampNeg (laneV l.toNatClampNeg v)) 412 (20 * b + i.toNatClampNeg) (laneV l.toNatClampNeg v)) b = rsN S b := by unfold rsN; rw [upI_n (by omega), upI_n (by omega)]
        rw [er2, upI_n (by omega), upI_n (by omega), upI_n (by omega), upI_n (by omega)]
        exact h.c b e2
      · rw [upI_n (by omega), upI_n (by omega)]; exact (h.sh b e2).1
      · rw [upI_n (by omega), upI_n (by omega)] at w ⊢; exact (h.sh b e2).2.1 w
      · by_cases q : i' = i.toNatClampNeg
        · rw [q, upI_s, upI_s]
        · rw [upI_n (by omega), upI_n (by omega), upI_n (by omega)]
          exact (h.sh b e2).2.2 i' hi
theorem PA_put {t c s l f : Int32} (h : IV S n) : PA sc mX9_put mX10_put [aI t, aI c, aI s, aI l, aI f] S n := by
  intro Q k
  have e20 : ∀ {j}, j < 4 → rsN S j ≤ 20 := fun hj => (h.c _ hj).1.2
  refine sX9_put h.a h.c h.th h.sh (fun d => k _ S (fun Q' k' => ?_)) (fun b e1 e2 c1 c2 c3 c4 => k _ S (fun Q' k' => ?_)) (fun b u p e1 e2 e3 e4 e5 e6 c1 c2 c3 c4 c5 S1 g1 => k _ S1 (fun Q' k' => ?_)) (fun b u p q e1 e2 e3 e4 e5 e6 c1 c2 c3 c4 c5 c6 S1 g1 => k _ S1 (fun Q' k' => ?_)) (fun b u p q w e1 e2 e3 e0 e4 e5 e6 c1 c2 c3 c4 c5 c6 S1 g1 t1 => k _ S1 (fun Q' k' => ?_))
  · have no : ¬ (isTh (thN S) t = true ∧ isCutB c = true ∧ isShB s l = true) := fun z => by
      rcases d with d | d | d
      · rw [z.1] at d; cases d
      · rw [z.2.1] at d; cases d
      · rw [z.2.2] at d; cases d
    exact sX10_put h.a h.c (fun _ => k' S h.mono) (fun b _ _ d1 d2 d3 => absurd ⟨d1, d2, d3⟩ no) (fun b u p _ _ _ _ _ _ d1 d2 d3 => absurd ⟨d1, d2, d3⟩ no) (fun b u p q _ _ _ _ _ _ d1 d2 d3 => absurd ⟨d1, d2, d3⟩ no) (fun b u p q w _ _ _ _ _ _ _ d1 d2 d3 => absurd ⟨d1, d2, d3⟩ no)
  · have eb : ∀ b', s = nI b' → b' < 4 → b' = b := fun b' z1 z2 => nI_ij (z1.symm.trans e1) (by omega) (by omega)
    refine sX10_put h.a h.c (fun d => ?_) (fun b' z1 z2 _ _ _ _ => ?_) (fun b' u p z1 _ _ z2 _ _ _ _ _ d => ?_) (fun b' u p q z1 _ _ z2 _ _ _ _ _ d => ?_) (fun b' u p q w z1 _ _ _ z2 _ _ _ _ _ d => ?_)
    · rcases d with d | d | d
      · rw [c1] at d; cases d
      · rw [c2] at d; cases d
      · rw [c3] at d; cases d
    · rw [eb b' z1 z2]; exact k' S h.mono
    · rw [eb b' z1 z2] at d; exact absurd d c4
    · rw [eb b' z1 z2] at d; exact absurd d c4
    · rw [eb b' z1 z2] at d; exact absurd d c4
  · have lo := qLo (sc_qu g1)
    have eb : ∀ b', s = nI b' → b' < 4 → b' = b := fun b' z1 z2 => nI_ij (z1.symm.trans e1) (by omega) (by omega)
    have t12 := h.a.1.2
    have et := thN_m lo.t.sm
    have eu : ∀ u', t = nI u' → u' < thN S1 → u' = u := fun u' z1 z2 => nI_ij (z1.symm.trans e2) (by omega) (by omega)
    have ep : ∀ p', c = nI p' → p' < 4800 → p' = p := fun p' z1 z2 => nI_ij (z1.symm.trans e3) (by omega) (by omega)
    have e10 : ∀ j, S1.2.1 410 j = S.2.1 410 j := fun j => lo.2 410 (by omega) j
    refine sX10_put (MIa_e lo.t h.a) (MIc_e lo.s h.c) (fun d => ?_) (fun b' z1 z2 _ _ _ d => ?_) (fun b' u' p' z1 z2 z3 z4 z5 z6 _ _ _ _ _ S2 g2 => k' S2 (IV_sc h g1 g2)) (fun b' u' p' q z1 z2 z3 z4 z5 z6 _ _ _ _ d => ?_) (fun b' u' p' q w z1 z2 z3 _ z4 z5 z6 _ _ _ _ d => ?_)
    · rw [et] at d
      rcases d with d | d | d
      · rw [c1] at d; cases d
      · rw [c2] at d; cases d
      · rw [c3] at d; cases d
    · rw [eb b' z1 z2, e10] at d; exact absurd c4 d
    · rw [eu u' z2 z5, ep p' z3 z6, lnB_w (SpW_m lo.t.sm), szN_w (SpW_m lo.t.sm), c5] at d; cases d
    · rw [eu u' z2 z5, ep p' z3 z6, lnB_w (SpW_m lo.t.sm), szN_w (SpW_m lo.t.sm), c5] at d; cases d
  · have lo := qLo (sc_qu g1)
    have eb : ∀ b', s = nI b' → b' < 4 → b' = b := fun b' z1 z2 => nI_ij (z1.symm.trans e1) (by omega) (by omega)
    have t12 := h.a.1.2
    have et := thN_m lo.t.sm
    have eu : ∀ u', t = nI u' → u' < thN S1 → u' = u := fun u' z1 z2 => nI_ij (z1.symm.trans e2) (by omega) (by omega)
    have ep : ∀ p', c = nI p' → p' < 4800 → p' = p := fun p' z1 z2 => nI_ij (z1.symm.trans e3) (by omega) (by omega)
    have e10 : ∀ j, S1.2.1 410 j = S.2.1 410 j := fun j => lo.2 410 (by omega) j
    have e11 : ∀ j, rsN S1 j = rsN S j := fun j => by unfold rsN; rw [lo.2 411 (by omega) j]
    refine sX10_put (MIa_e lo.t h.a) (MIc_e lo.s h.c) (fun d => ?_) (fun b' z1 z2 _ _ _ d => ?_) (fun b' u' p' z1 z2 z3 z4 z5 z6 _ _ _ _ d => ?_) (fun b' u' p' q z1 z2 z3 z4 z5 z6 _ _ _ _ _ _ S2 g2 => k' S2 (IV_sc h g1 g2)) (fun b' u' p' q' w z1 z2 z3 z0 z4 z5 z6 _ _ _ _ d1 d2 => ?_)
    · rw [et] at d
      rcases d with d | d | d
      · rw [c1] at d; cases d
      · rw [c2] at d; cases d
      · rw [c3] at d; cases d
    · rw [eb b' z1 z2, e10] at d; exact absurd c4 d
    · rw [eu u' z2 z5, ep p' z3 z6, lnB_w (SpW_m lo.t.sm), szN_w (SpW_m lo.t.sm), c5] at d; cases d
    · rw [eu u' z2 z5, ep p' z3 z6, lnB_w (SpW_m lo.t.sm), szN_w (SpW_m lo.t.sm), c5] at d1
      injection d1 with d1
      subst d1
      rw [eb b' z1 z4, e11] at d2
      have := e20 e4
      rw [z0, nIt (by omega)] at c6
      exact absurd ⟨by omega, by omega⟩ c6
  · have g9 : Fr (s9X b) (s9A b) S S1 := g1.mono (fun a j q => Or.inl q) (fun a q => q)
    have lo : LoF S S1 := LoF.of g9.n (fun a j q => by omega) (fun a q => by omega)
    have eb : ∀ b', s = nI b' → b' < 4 → b' = b := fun b' z1 z2 => nI_ij (z1.symm.trans e1) (by omega) (by omega)
    have t12 := h.a.1.2
    have et := thN_m lo.t.sm
    have eu : ∀ u', t = nI u' → u' < thN S1 → u' = u := fun u' z1 z2 => nI_ij (z1.symm.trans e2) (by omega) (by omega)
    have ep : ∀ p', c = nI p' → p' < 4800 → p' = p := fun p' z1 z2 => nI_ij (z1.symm.trans e3) (by omega) (by omega)
    have e10 : ∀ j, S1.2.1 410 j = S.2.1 410 j := fun j => lo.2 410 (by omega) j
    have e11 : ∀ j, rsN S1 j = rsN S j := fun j => by unfold rsN; rw [lo.2 411 (by omega) j]
    have r20 := e20 e4
    refine sX10_put (MIa_e lo.t h.a) (MIc_e lo.s h.c) (fun d => ?_) (fun b' z1 z2 _ _ _ d => ?_) (fun b' u' p' z1 z2 z3 z4 z5 z6 _ _ _ _ d => ?_) (fun b' u' p' q' z1 z2 z3 z4 z5 z6 _ _ _ _ d1 d2 => ?_) (fun b' u' p' q' w' z1 z2 z3 z0 z4 z5 z6 _ _ _ _ d1 d2 S3 g3 o3 => ?_)
    · rw [et] at d
      rcases d with d | d | d
      · rw [c1] at d; cases d
      · rw [c2] at d; cases d
      · rw [c3] at d; cases d
    · rw [eb b' z1 z2, e10] at d; exact absurd c4 d
    · rw [eu u' z2 z5, ep p' z3 z6, lnB_w (SpW_m lo.t.sm), szN_w (SpW_m lo.t.sm), c5] at d; cases d
    · rw [eu u' z2 z5, ep p' z3 z6, lnB_w (SpW_m lo.t.sm), szN_w (SpW_m lo.t.sm), c5] at d1
      injection d1 with d1
      subst d1
      rw [eb b' z1 z4, e11, e0, nIt (by omega)] at d2
      exact absurd ⟨by omega, by omega⟩ d2
    · rw [eu u' z2 z5, ep p' z3 z6, lnB_w (SpW_m lo.t.sm), szN_w (SpW_m lo.t.sm), c5] at d1
      injection d1 with d1
      subst d1
      have hb := eb b' z1 z4
      subst hb
      rw [e11] at d2
      have hw : w' = w := nI_ij (z0.symm.trans e0) (by omega) (by omega)
      subst hw
      refine k' _ (IV_s h e4 g9 ((g3.mono (fun a j z => z) (fun a z => Or.inl z)).tr (Fr.upR (Or.inr ⟨by omega, by omega⟩))) (SH_upd h.2.2.1 e4 g9 (fun j hj z => ⟨?_, ?_, fun i hi => ?_⟩) ?_ ⟨?_, fun z => ?_, fun i hi => ?_⟩))
      · rw [upR_n (by omega)]; exact (g3.2.1 410 (by omega) j).trans (e10 j)
      · rw [upR_n (by omega)]; exact (g3.2.1 411 (by omega) j).trans (lo.2 411 (by omega) j)
      · rw [upR_n (by omega)]; exact (g3.2.1 412 (by omega) _).trans (lo.2 412 (by omega) _)
      · have er2 : rsN (upR S3 412 (20 * b' + w') q.length (S3.2.1 397)) b' = rsN S b' := by
          unfold rsN
          rw [upR_n (by omega), g3.2.1 411 (by omega), lo.2 411 (by omega)]
        rw [er2, upR_n (by omega), upR_n (by omega), g3.2.1 411 (by omega), lo.2 411 (by omega), g3.2.1 410 (by omega), e10]
        exact h.c b' e4
      · rw [upR_n (by omega), g3.2.1 410 (by omega), e10]
        exact (g1.1 _ _ (by omega)).trans (h.sh b' e4).1
      · rw [upR_n (by omega), g3.2.1 410 (by omega), e10] at z
        rw [upR_n (by omega), g3.2.1 411 (by omega), lo.2 411 (by omega)]
        exact (g1.1 _ _ (by omega)).trans ((h.sh b' e4).2.1 z)
      · rw [t1 i hi]
        by_cases z : w' ≤ i ∧ i < w' + q.length
        · rw [if_pos z, upR_in (by omega), show 20 * b' + i - (20 * b' + w') = i - w' by omega, o3.2 (i - w') (by omega)]
        · rw [if_neg z, upR_n (by omega), g3.2.1 412 (by omega), lo.2 412 (by omega)]
          exact (h.sh b' e4).2.2 i hi
end I5
