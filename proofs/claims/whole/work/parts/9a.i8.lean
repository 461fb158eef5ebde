/-! a call on both: line, forget, show -/
section I8
variable {sc : SC} {S S1 S2 S3 A2 B2 : ST} {n : Nat}
theorem rs_m (lo : LoF S S1) (j : Nat) : rsN S1 j = rsN S j := by unfold rsN; rw [lo.2 411 (by omega) j]
theorem PA_line {s l f m : Int32} (h : IV S n) : PA sc mX9_line mX10_line [aI s, aI l, aI f, aI m] S n := by
  intro Q k
  have k12 := h.a.1.2
  have e20 : ∀ {j}, j < 4 → rsN S j ≤ 20 := fun hj => (h.c _ hj).1.2
  refine sX9_line h.c h.sh k12 h.th.1 (fun d => k _ S (fun Q' k' => ?_)) (fun b e1 e2 c1 c2 c3 => k _ S (fun Q' k' => ?_)) (fun b e1 e2 c1 c2 c3 c4 => k _ S (fun Q' k' => ?_)) (fun b y z e1 e2 e3 e4 c1 c2 c3 c4 c5 S1 g1 => k _ S1 (fun Q' k' => ?_)) (fun b y z e1 e2 e3 e4 c1 c2 c3 c4 c5 c6 S1 g1 => k _ S1 (fun Q' k' => ?_)) (fun b y z e1 e2 e3 e4 c1 c2 c3 c4 c5 c6 S0 S1 g0 g1 b0 b1 b2 => k _ S1 (fun Q' k' => ?_))
  · have no : ¬ (isShB s l = true ∧ (1 ≤ m.toInt ∧ m.toInt ≤ 16)) := fun z => by
      rcases d with d | d
      · rw [z.1] at d; cases d
      · exact d z.2
    have no2 : ∀ z, m = nI z → isShB s l = true → 1 ≤ z ∧ z ≤ 16 → False := fun z q1 q2 q3 => no ⟨q2, by rw [q1, nIt (by omega)]; omega⟩
    exact sX10_line h.c k12 h.a.1.1 (fun _ => k' S h.mono) (fun b _ _ d1 d2 => absurd ⟨d1, d2⟩ no) (fun b _ _ d1 d2 => absurd ⟨d1, d2⟩ no) (fun b y z _ _ q1 _ d1 d2 => (no2 z q1 d1 d2).elim) (fun b y z _ _ q1 _ d1 d2 => (no2 z q1 d1 d2).elim) (fun b y z _ _ q1 _ d1 d2 => (no2 z q1 d1 d2).elim)
  · have eb : ∀ b', s = nI b' → b' < 4 → b' = b := fun b' z1 z2 => nI_ij (z1.symm.trans e1) (by omega) (by omega)
    refine sX10_line h.c k12 h.a.1.1 (fun d => ?_) (fun b' q1 q2 d1 d2 d3 => ?_) (fun b' q1 q2 d1 d2 d3 => ?_) (fun b' y z q1 _ _ q2 d1 d2 d3 => ?_) (fun b' y z q1 _ _ q2 d1 d2 d3 => ?_) (fun b' y z q1 _ _ q2 d1 d2 d3 => ?_)
    · rcases d with d | d
      · rw [c1] at d; cases d
      · exact absurd c2 d
    · rw [eb b' q1 q2]; exact k' S h.mono
    · rw [eb b' q1 q2] at d3; exact absurd d3 c3
    · rw [eb b' q1 q2] at d3; exact absurd d3 c3
    · rw [eb b' q1 q2] at d3; exact absurd d3 c3
    · rw [eb b' q1 q2] at d3; exact absurd d3 c3
  · have eb : ∀ b', s = nI b' → b' < 4 → b' = b := fun b' z1 z2 => nI_ij (z1.symm.trans e1) (by omega) (by omega)
    have no2 : ∀ b' y z, s = nI b' → f = nI y → m = nI z → b' < 4 → 1 ≤ z ∧ z ≤ 16 → y + z ≤ rsN S b' → False := fun b' y z q1 q2 q3 q4 q5 q6 => by
      rw [eb b' q1 q4] at q6
      have := e20 e2
      rw [q2, q3, nIt (by omega), nIt (by omega)] at c4
      exact c4 ⟨by omega, by omega⟩
    refine sX10_line h.c k12 h.a.1.1 (fun d => ?_) (fun b' q1 q2 d1 d2 d3 => ?_) (fun b' q1 q2 d1 d2 d3 d4 => k' S h.mono) (fun b' y z q1 q2 q3 q4 d1 d2 d3 d4 => (no2 b' y z q1 q2 q3 q4 d2 d4).elim) (fun b' y z q1 q2 q3 q4 d1 d2 d3 d4 => (no2 b' y z q1 q2 q3 q4 d2 d4).elim) (fun b' y z q1 q2 q3 q4 d1 d2 d3 d4 => (no2 b' y z q1 q2 q3 q4 d2 d4).elim)
    · rcases d with d | d
      · rw [c1] at d; cases d
      · exact absurd c2 d
    · rw [eb b' q1 q2] at d3; exact absurd c3 d3
  · have lo := qLo (sc_qu g1)
    have r20 := e20 e4
    have eb : ∀ b', s = nI b' → b' < 4 → b' = b := fun b' z1 z2 => nI_ij (z1.symm.trans e1) (by omega) (by omega)
    have ez : ∀ z', m = nI z' → z' ≤ 16 → z' = z := fun z' z1 z2 => nI_ij (z1.symm.trans e3) (by omega) (by omega)
    have ey : ∀ y' b', f = nI y' → b' < 4 → s = nI b' → y' ≤ rsN S1 b' → y' = y := fun y' b' z1 z2 z3 z4 => by
      rw [eb b' z3 z2, rs_m lo] at z4
      exact nI_ij (z1.symm.trans e2) (by omega) (by omega)
    have e12 : ∀ i, S1.2.1 412 i = S.2.1 412 i := fun i => lo.2 412 (by omega) i
    refine sX10_line (MIc_e lo.s h.c) k12 ((lo.1 389 0 (by omega)).trans h.a.1.1) (fun d => ?_) (fun b' q1 q2 d1 d2 d3 => ?_) (fun b' q1 q2 d1 d2 d3 d4 => ?_) (fun b' y' z' q1 q2 q3 q4 d1 d2 d3 d4 d5 => k' S1 ?_) (fun b' y' z' q1 q2 q3 q4 d1 d2 d3 d4 d5 => ?_) (fun b' y' z' q1 q2 q3 q4 d1 d2 d3 d4 d5 => ?_)
    · rcases d with d | d
      · rw [c1] at d; cases d
      · rw [e3, nIt (by omega)] at d; exact absurd ⟨by omega, by omega⟩ d
    · rw [eb b' q1 q2, lo.2 410 (by omega)] at d3; exact absurd c3 d3
    · rw [eb b' q1 q2, rs_m lo, e2, e3, nIt (by omega), nIt (by omega)] at d4; exact absurd ⟨by omega, by omega⟩ d4
    · exact IV_sc h g1 Fr.rf
    · rw [ey y' b' q2 q4 q1 (by omega), ez z' q3 d2.2, eb b' q1 q4, allIt_m e12, c5] at d5; cases d5
    · rw [ey y' b' q2 q4 q1 (by omega), ez z' q3 d2.2, eb b' q1 q4, allIt_m e12, c5] at d5; cases d5
  · have lo := qLo (sc_qu g1)
    have r20 := e20 e4
    have eb : ∀ b', s = nI b' → b' < 4 → b' = b := fun b' z1 z2 => nI_ij (z1.symm.trans e1) (by omega) (by omega)
    have ez : ∀ z', m = nI z' → z' ≤ 16 → z' = z := fun z' z1 z2 => nI_ij (z1.symm.trans e3) (by omega) (by omega)
    have ey : ∀ y' b', f = nI y' → b' < 4 → s = nI b' → y' ≤ rsN S1 b' → y' = y := fun y' b' z1 z2 z3 z4 => by
      rw [eb b' z3 z2, rs_m lo] at z4
      exact nI_ij (z1.symm.trans e2) (by omega) (by omega)
    have e12 : ∀ i, S1.2.1 412 i = S.2.1 412 i := fun i => lo.2 412 (by omega) i
    refine sX10_line (MIc_e lo.s h.c) k12 ((lo.1 389 0 (by omega)).trans h.a.1.1) (fun d => ?_) (fun b' q1 q2 d1 d2 d3 => ?_) (fun b' q1 q2 d1 d2 d3 d4 => ?_) (fun b' y' z' q1 q2 q3 q4 d1 d2 d3 d4 d5 => ?_) (fun b' y' z' q1 q2 q3 q4 d1 d2 d3 d4 d5 d6 => k' S1 ?_) (fun b' y' z' q1 q2 q3 q4 d1 d2 d3 d4 d5 d6 => by omega)
    · rcases d with d | d
      · rw [c1] at d; cases d
      · rw [e3, nIt (by omega)] at d; exact absurd ⟨by omega, by omega⟩ d
    · rw [eb b' q1 q2, lo.2 410 (by omega)] at d3; exact absurd c3 d3
    · rw [eb b' q1 q2, rs_m lo, e2, e3, nIt (by omega), nIt (by omega)] at d4; exact absurd ⟨by omega, by omega⟩ d4
    · rw [ey y' b' q2 q4 q1 (by omega), ez z' q3 d2.2, eb b' q1 q4, allIt_m e12, c5] at d5; cases d5
    · exact IV_sc h g1 Fr.rf
  · have g9 : Fr (aX (thN S)) (aA (thN S)) S S1 := (g0.mono (fun a j q => Or.inr (Or.inl q)) (fun a q => Or.inr q)).tr (g1.mono (fun a j q => Or.inl q) (fun a q => Or.inl q))
    have lo : LoF S S1 := LoF.of g9.n (fun a j q => by omega) (fun a q => by omega)
    have r20 := e20 e4
    have eb : ∀ b', s = nI b' → b' < 4 → b' = b := fun b' z1 z2 => nI_ij (z1.symm.trans e1) (by omega) (by omega)
    have ez : ∀ z', m = nI z' → z' ≤ 16 → z' = z := fun z' z1 z2 => nI_ij (z1.symm.trans e3) (by omega) (by omega)
    have ey : ∀ y' b', f = nI y' → b' < 4 → s = nI b' → y' ≤ rsN S1 b' → y' = y := fun y' b' z1 z2 z3 z4 => by
      rw [eb b' z3 z2, rs_m lo] at z4
      exact nI_ij (z1.symm.trans e2) (by omega) (by omega)
    have e12 : ∀ i, S1.2.1 412 i = S.2.1 412 i := fun i => lo.2 412 (by omega) i
    refine sX10_line (MIc_e lo.s h.c) k12 ((lo.1 389 0 (by omega)).trans h.a.1.1) (fun d => ?_) (fun b' q1 q2 d1 d2 d3 => ?_) (fun b' q1 q2 d1 d2 d3 d4 => ?_) (fun b' y' z' q1 q2 q3 q4 d1 d2 d3 d4 d5 => ?_) (fun b' y' z' q1 q2 q3 q4 d1 d2 d3 d4 d5 d6 => by omega) (fun b' y' z' q1 q2 q3 q4 d1 d2 d3 d4 d5 d6 => k' _ ?_)
    · rcases d with d | d
      · rw [c1] at d; cases d
      · rw [e3, nIt (by omega)] at d; exact absurd ⟨by omega, by omega⟩ d
    · rw [eb b' q1 q2, lo.2 410 (by omega)] at d3; exact absurd c3 d3
    · rw [eb b' q1 q2, rs_m lo, e2, e3, nIt (by omega), nIt (by omega)] at d4; exact absurd ⟨by omega, by omega⟩ d4
    · rw [ey y' b' q2 q4 q1 (by omega), ez z' q3 d2.2, eb b' q1 q4, allIt_m e12, c5] at d5; cases d5
    · rw [ey y' b' q2 q4 q1 (by omega), ez z' q3 d2.2, eb b' q1 q4]
      have hby : ∀ j, j < z → isBy (S.2.1 412 (20 * b + y + j)) := fun j hj => allIt_iff z 0 |>.mp c5 j (by omega) (by omega)
      refine IV_add (f := fun i => S1.2.1 412 (20 * b + y + i)) h rfl c6 c2 (fun j hj => by rw [e12]; exact hby j hj) g9 b0 b1 b2 (fun j hj => ?_) Fr.rf ?_
      · rw [lst_at hj]; exact (e12 _).symm
      · obtain ⟨u, z1, z2, z3⟩ := h.2.2.2.1
        exact ⟨u, z1.kept (lo.1 389 9 (by omega)) (fun i => lo.2 396 (by omega) i), z2.kept ((g1.1 1 1 (by omega)).trans (g0.1 1 1 (by omega))) (fun i => g9.2.1 2 (by omega) i), z3⟩
end I8
