/-! the model: findNearest, lacksFit, fitting, shortest, paper -/
abbrev wX (a j : Nat) : Prop := a = 389 ∧ (j = 12 ∨ j = 13 ∨ j = 15 ∨ j = 18 ∨ j = 22 ∨ j = 27)
abbrev wA (a : Nat) : Prop := 397 ≤ a ∧ a ≤ 407
theorem wO {S S' : ST} (h : Fr oX oA S S') : Fr wX wA S S' := h.mono (fun a j q => ⟨q.1, by omega⟩) (fun a q => by constructor <;> omega)
theorem wH {S S' : ST} (h : Fr hX hA S S') : Fr wX wA S S' := h.mono (fun a j q => ⟨q.1, by omega⟩) (fun a q => by constructor <;> omega)
theorem wP {S S' : ST} (h : Fr pX pA S S') : Fr wX wA S S' := h.mono (fun a j q => ⟨q.1, by omega⟩) (fun a q => by constructor <;> omega)
theorem wN {S S' : ST} (h : Fr nX nA S S') : Fr wX wA S S' := h.mono (fun a j q => ⟨q.1, by omega⟩) (fun a q => by constructor <;> omega)
/-- the pieces behind, as they were left -/
def MIe (S : ST) : Prop := ∃ B, BhL S B ∧ BhC S B ∧ B.length ≤ 4803 ∧ LsOk B
theorem MIe_k {S S' : ST} (h : MIe S) (h1 : S'.1 389 18 = S.1 389 18) (h2 : ∀ a, 401 ≤ a ∧ a ≤ 403 → ∀ i, S'.2.1 a i = S.2.1 a i) : MIe S' := by
  obtain ⟨B, b1, b2, b3, b4⟩ := h
  exact ⟨B, BhL_k b1 h1 (h2 401 (by omega)) (h2 402 (by omega)), BhC_k b2 (h2 403 (by omega)), b3, b4⟩
theorem SpW_x {S : ST} {a j : Nat} {v : Int32} : SpW S (upX S a j v) := fun _ _ _ => rfl
theorem SpW_f {px : Nat → Nat → Prop} {pi : Nat → Prop} {S S' : ST} (h : Fr px pi S S') (hp : ∀ a, a = 390 ∨ a = 391 ∨ a = 393 ∨ a = 394 → ¬ pi a) : SpW S S' := fun a ha => h.2.1 a (hp a ha)
/-- what the queries need -/
def MI0 (S : ST) : Prop := MIa S ∧ MIb S ∧ MIe S ∧ (shL S 0).length ≤ 4
/-- the shortest program -/
def nr0 (S : ST) : List Nat := (neA S (shL S 0)).getD 0 []
theorem nr0_ok {S : ST} (h : MI0 S) (h0 : shL S 0 ≠ []) (h1 : neA S (shL S 0) ≠ []) : PgOk (nr0 S) := by
  refine neA_ok h0 (TsOk_sh h.1 h.2.1 h.2.2.2) (EnBy_sh h.2.1) _ ?_
  unfold nr0
  rw [List.getD_eq_getElem?_getD, List.getElem?_eq_getElem (List.length_pos_iff.mpr h1)]
  exact List.getElem_mem _
section M30
variable {sc : SC} {S : ST} {Q : Option AV → HM → Prop}
set_option maxRecDepth 100000 in
set_option maxHeartbeats 4000000 in
/-- shown things and pieces are found -/
theorem found {but : Nat} (hi : MI0 S) (hS1 : ST) (g1 : Fr hX hA S hS1) : TsOk hS1 (shL S but) ∧ EnBy hS1 (shL S but) ∧ MIe hS1 :=
  ⟨TsOk_w (SpW_h g1) (TsOk_sh hi.1 hi.2.1 hi.2.2.2), EnBy_w (SpW_h g1) (EnBy_sh hi.2.1), MIe_k hi.2.2.1 (g1.1 389 18 (by omega)) (fun a ha => g1.2.1 a (by omega))⟩
set_option maxRecDepth 100000 in
set_option maxHeartbeats 4000000 in
theorem found2 {ts : List Nat} {S1 S2 : ST} (h0 : ts ≠ []) (f1 : TsOk S1 ts) (f2 : EnBy S1 ts) (g2 : ShIs S1 ts) (k1 : Fr pX pA S1 S2) (k2 : FrIs S2 (frA S1 ts)) (k3 : BhL S2 (bhA S1 ts)) (k4 : BhC S2 (bhA S1 ts)) : PcOk S2 ts (frA S1 ts) (bhA S1 ts) ∧ MIe S2 := by
  have hF := frA_ok h0 f1 f2
  have hB := bhA_ok h0 f1 f2
  exact ⟨⟨TsOk_eq k1 f1, ShIs_eq k1 g2, EnBy_eq k1 f2, k2, k3, k4, hF.2, hB.2, fun i hi => ⟨isPc_lt (hF.1 _ (getD_mem2 hi)).1, (hF.1 _ (getD_mem2 hi)).2⟩, fun i hi => ⟨isPc_lt (hB.1 _ (getD_mem2 hi)).1, (hB.1 _ (getD_mem2 hi)).2⟩⟩, _, k3, k4, hB.2, hB.1⟩
set_option maxRecDepth 100000 in
set_option maxHeartbeats 4000000 in
theorem sX10_findNearest (hi : MI0 S) (h0 : shL S 0 ≠ []) (h : ∀ S', Fr wX wA S S' → MIe S' → NeIs S' (neA S (shL S 0)) → Q none (mk S')) : CT sc mX10_findNearest [aR 389] (mk S) Q := by
  refine S_of (by decide) rfl ?_
  show G sc mX10_findNearest 0 [some (aR 389), none, none, none, none] [] (mk S) Q
  refine G_aload_n (pc := 0) dX10_findNearest_0 rfl rfl ?_
  refine G_iconst (pc := 1) (v := nI 0) dX10_findNearest_1 (by decide) ?_
  refine S_callV (av := [_]) (pc := 2) (z := mX10_findShown) (ci := 9) dX10_findNearest_2 zX10_findShown lX10_findNearest_205 rfl (by first | rfl | assumption) rfl rfl (sX10_findShown (but := 0) hi.1 hi.2.1 (by decide) hi.2.2.2 (fun S1 g1 g2 => ⟨_, rfl, ?_⟩))
  obtain ⟨f1, f2, B, b1, b2, b3, b4⟩ := found (but := 0) hi S1 g1
  refine G_aload_n (pc := 5) dX10_findNearest_5 rfl rfl ?_
  refine S_callV (av := []) (pc := 6) (z := mX10_findPieces) (ci := 9) dX10_findNearest_6 zX10_findPieces lX10_findNearest_209 rfl (by first | rfl | assumption) rfl rfl (sX10_findPieces f1 g2 f2 b1 b2 b3 (fun i hi => (b4 _ (getD_mem2 hi)).2) (fun S2 k1 k2 k3 k4 => ⟨_, rfl, ?_⟩))
  obtain ⟨p1, p2⟩ := found2 h0 f1 f2 g2 k1 k2 k3 k4
  refine G_aload_n (pc := 9) dX10_findNearest_9 rfl rfl ?_
  refine G_iconst (pc := 10) (v := nI 0) dX10_findNearest_10 (by decide) ?_
  refine S_putI (pc := 11) dX10_findNearest_11 fX10_216 (by decide) rfl (by first | rfl | assumption) rfl ?_
  refine G_iconst (pc := 14) (v := nI 3) dX10_findNearest_14 (by decide) ?_
  refine G_istore_n (pc := 15) dX10_findNearest_15 rfl (by decide) rfl ?_
  have F0 : Fr nX nA S2 (upX S2 389 22 (nI 0)) := Fr.upX ⟨rfl, rfl⟩
  have w1 : SpW S (upX S2 389 22 (nI 0)) := (SpW_h g1).tr ((SpW_f k1 (by omega)).tr SpW_x)
  refine nearest_lp5 (PcOk_n F0 p1) 13 3 _ [] _ _ _ (by omega) (by omega) Fr.rf ⟨by simp, by rw [upX_s]; rfl, fun i hi => by simp at hi⟩ (fun S3 e1 e2 => ?_)
  rw [frA_w (SpW_h g1), bhA_w (SpW_h g1), cstF_w w1] at e2
  exact h S3 ((((wH g1).tr (wP k1)).tr (wN F0)).tr (wN e1)) (MIe_k p2 (e1.1 389 18 (by omega)) (fun a ha i => e1.2.1 a (by omega) i)) e2
set_option maxRecDepth 100000 in
set_option maxHeartbeats 4000000 in
theorem sX10_lacksFit (hi : MI0 S) (h2 : shL S 0 = [] → Q (some (aI (-2))) (mk S)) (h4 : shL S 0 ≠ [] → neA S (shL S 0) = [] → ∀ S', Fr wX wA S S' → MIe S' → Q (some (aI (-4))) (mk S')) (h0 : shL S 0 ≠ [] → neA S (shL S 0) ≠ [] → ∀ S', Fr wX wA S S' → MIe S' → NeIs S' (neA S (shL S 0)) → Q (some (aI (nI 0))) (mk S')) : CT sc mX10_lacksFit [aR 389] (mk S) Q := by
  refine S_of (by decide) rfl ?_
  show G sc mX10_lacksFit 0 [some (aR 389)] [] (mk S) Q
  have hl := hi.2.2.2
  have hnl := neA_le (S := S) (ts := shL S 0)
  refine G_aload_n (pc := 0) dX10_lacksFit_0 rfl rfl ?_
  refine G_iconst (pc := 1) (v := nI 1) dX10_lacksFit_1 (by decide) ?_
  refine S_callV (av := [_]) (pc := 2) (z := mX10_countOf) (ci := 9) dX10_lacksFit_2 zX10_countOf lX10_lacksFit_169 rfl (by first | rfl | assumption) rfl rfl (sX10_countOf hi.1 ⟨_, rfl, ?_⟩)
  rw [cnt_sh hi.2.1]
  refine N_if_ne (pc := 5) (tgt := 11) dX10_lacksFit_5 (by decide) (by omega) (fun c5 => ?_) (fun c5 => ?_)
  · skip
    refine G_aload_n (pc := 11) dX10_lacksFit_11 rfl rfl ?_
    refine S_callV (av := []) (pc := 12) (z := mX10_findNearest) (ci := 9) dX10_lacksFit_12 zX10_findNearest lX10_lacksFit_230 rfl (by first | rfl | assumption) rfl rfl (sX10_findNearest hi (fun e => c5 (by rw [e]; rfl)) (fun S1 g1 g2 g3 => ⟨_, rfl, ?_⟩))
    refine G_aload_n (pc := 15) dX10_lacksFit_15 rfl rfl ?_
    refine S_getI (pc := 16) dX10_lacksFit_16 fX10_216 rfl (by first | rfl | assumption) rfl ?_
    rw [g3.2.1]
    refine N_if_ne (pc := 19) (tgt := 27) dX10_lacksFit_19 (by decide) (by omega) (fun c19 => ?_) (fun c19 => ?_)
    · skip
      refine G_iconst (pc := 27) (v := nI 0) dX10_lacksFit_27 (by decide) ?_
      refine S_iret (pc := 28) dX10_lacksFit_28 rfl ?_
      first
        | exact h4 (fun e => c5 (by rw [e]; rfl)) (List.length_eq_zero_iff.mp c19) S1 g1 g2
        | exact h0 (fun e => c5 (by rw [e]; rfl)) (fun e => c19 (by rw [e]; rfl)) S1 g1 g2 g3
    · skip
      refine G_bipush (pc := 22) (v := (-4)) dX10_lacksFit_22 (by decide) ?_
      refine G_goto (pc := 24) (tgt := 28) dX10_lacksFit_24 (by decide) ?_
      refine S_iret (pc := 28) dX10_lacksFit_28 rfl ?_
      first
        | exact h4 (fun e => c5 (by rw [e]; rfl)) (List.length_eq_zero_iff.mp c19) S1 g1 g2
        | exact h0 (fun e => c5 (by rw [e]; rfl)) (fun e => c19 (by rw [e]; rfl)) S1 g1 g2 g3
  · skip
    refine G_bipush (pc := 8) (v := (-2)) dX10_lacksFit_8 (by decide) ?_
    refine S_iret (pc := 10) dX10_lacksFit_10 rfl ?_
    exact h2 (List.length_eq_zero_iff.mp c5)
/-- how many programs of n pieces -/
def fitN (S : ST) (ts : List Nat) (n : Nat) : Nat := fitP S ts (frA S ts) (bhA S ts) n (frA S ts).length
def sp_fitting (S : ST) (n : Int32) : Int64 := if 0 ≤ n.toInt ∧ n.toInt ≤ 3 then (if shL S 0 = [] then -2 else if n.toInt = 0 then lN (fitN S (shL S 0) 1 + fitN S (shL S 0) 2 + fitN S (shL S 0) 3) else lN (fitN S (shL S 0) n.toNatClampNeg)) else -1
set_option maxRecDepth 100000 in
set_option maxHeartbeats 4000000 in
theorem sX10_fitting {n : Int32} (hi : MI0 S) (h : ∀ S', Fr wX wA S S' → MIe S' → Q (some (aL (sp_fitting S n))) (mk S')) : CT sc mX10_fitting [aR 389, aI n] (mk S) Q := by
  refine S_of (by decide) rfl ?_
  show G sc mX10_fitting 0 [some (aR 389), some (aI n)] [] (mk S) Q
  have hl := hi.2.2.2
  have z0 : (0 : Int64).toInt = 0 := rfl
  have z3 : (3 : Int64).toInt = 3 := rfl
  refine G_iload_n (pc := 0) dX10_fitting_0 rfl rfl ?_
  refine G_i2l (pc := 1) dX10_fitting_1 ?_
  refine G_lconst (pc := 2) (v := 0) dX10_fitting_2 (by decide) ?_
  refine G_ldc2 (pc := 3) dX10_fitting_3 kX10_201 ?_
  refine S_callS (av := [_, _, _]) (pc := 6) (z := mX10_in) dX10_fitting_6 zX10_in lX10_fitting_84 rfl (sX10_in ⟨_, rfl, ?_⟩)
  refine B_if_ne (pc := 9) (tgt := 16) dX10_fitting_9 (by decide) (fun c9 => ?_) (fun c9 => ?_)
  · skip
    rw [decide_eq_true_iff, Int32.toInt_toInt64, z0, z3] at c9
    unfold sp_fitting at h
    rw [if_pos c9] at h
    obtain ⟨k, hk, rfl⟩ := nI_ex (x := n) (n := 4) (by omega) (by omega)
    rw [nI_clamp (by omega), nIt (by omega)] at h
    refine G_aload_n (pc := 16) dX10_fitting_16 rfl rfl ?_
    refine G_iconst (pc := 17) (v := nI 1) dX10_fitting_17 (by decide) ?_
    refine S_callV (av := [_]) (pc := 18) (z := mX10_countOf) (ci := 9) dX10_fitting_18 zX10_countOf lX10_fitting_169 rfl (by first | rfl | assumption) rfl rfl (sX10_countOf hi.1 ⟨_, rfl, ?_⟩)
    rw [cnt_sh hi.2.1]
    refine N_if_ne (pc := 21) (tgt := 28) dX10_fitting_21 (by decide) (by omega) (fun c21 => ?_) (fun c21 => ?_)
    · skip
      have h0 : shL S 0 ≠ [] := fun e => c21 (by rw [e]; rfl)
      rw [if_neg h0] at h
      refine G_aload_n (pc := 28) dX10_fitting_28 rfl rfl ?_
      refine G_iconst (pc := 29) (v := nI 0) dX10_fitting_29 (by decide) ?_
      refine S_callV (av := [_]) (pc := 30) (z := mX10_findShown) (ci := 9) dX10_fitting_30 zX10_findShown lX10_fitting_205 rfl (by first | rfl | assumption) rfl rfl (sX10_findShown (but := 0) hi.1 hi.2.1 (by decide) hi.2.2.2 (fun S1 g1 g2 => ⟨_, rfl, ?_⟩))
      obtain ⟨f1, f2, B, b1, b2, b3, b4⟩ := found (but := 0) hi S1 g1
      refine G_aload_n (pc := 33) dX10_fitting_33 rfl rfl ?_
      refine S_callV (av := []) (pc := 34) (z := mX10_findPieces) (ci := 9) dX10_fitting_34 zX10_findPieces lX10_fitting_209 rfl (by first | rfl | assumption) rfl rfl (sX10_findPieces f1 g2 f2 b1 b2 b3 (fun i hi => (b4 _ (getD_mem2 hi)).2) (fun S2 k1 k2 k3 k4 => ⟨_, rfl, ?_⟩))
      obtain ⟨p1, p2⟩ := found2 h0 f1 f2 g2 k1 k2 k3 k4
      have w1 : SpW S S2 := (SpW_h g1).tr (SpW_f k1 (by omega))
      rw [frA_w (SpW_h g1), bhA_w (SpW_h g1)] at p1
      obtain ⟨a1, a2, a3, a4, a5, a6, a7, a8, a9, a10⟩ := p1
      have h := h S2 ((wH g1).tr (wP k1)) p2
      refine G_iload_n (pc := 37) dX10_fitting_37 rfl rfl ?_
      refine N_if_le (pc := 38) (tgt := 49) dX10_fitting_38 (by decide) (by omega) (fun c38 => ?_) (fun c38 => ?_)
      · skip
        refine G_aload_n (pc := 49) dX10_fitting_49 rfl rfl ?_
        refine G_iconst (pc := 50) (v := nI 1) dX10_fitting_50 (by decide) ?_
        refine S_callV (av := [_]) (pc := 51) (z := mX10_fittingOf) (ci := 9) dX10_fitting_51 zX10_fittingOf lX10_fitting_212 rfl (by first | rfl | assumption) rfl rfl (sX10_fittingOf (by omega) a1 a2 a3 a4 a6 a7 (fun i hi => (a9 i hi).2) a8 ⟨_, rfl, ?_⟩)
        refine G_aload_n (pc := 54) dX10_fitting_54 rfl rfl ?_
        refine G_iconst (pc := 55) (v := nI 2) dX10_fitting_55 (by decide) ?_
        refine S_callV (av := [_]) (pc := 56) (z := mX10_fittingOf) (ci := 9) dX10_fitting_56 zX10_fittingOf lX10_fitting_212 rfl (by first | rfl | assumption) rfl rfl (sX10_fittingOf (by omega) a1 a2 a3 a4 a6 a7 (fun i hi => (a9 i hi).2) a8 ⟨_, rfl, ?_⟩)
        refine G_ladd (pc := 59) dX10_fitting_59 ?_
        refine G_aload_n (pc := 60) dX10_fitting_60 rfl rfl ?_
        refine G_iconst (pc := 61) (v := nI 3) dX10_fitting_61 (by decide) ?_
        refine S_callV (av := [_]) (pc := 62) (z := mX10_fittingOf) (ci := 9) dX10_fitting_62 zX10_fittingOf lX10_fitting_212 rfl (by first | rfl | assumption) rfl rfl (sX10_fittingOf (by omega) a1 a2 a3 a4 a6 a7 (fun i hi => (a9 i hi).2) a8 ⟨_, rfl, ?_⟩)
        refine G_ladd (pc := 65) dX10_fitting_65 ?_
        refine S_lret (pc := 66) dX10_fitting_66 rfl ?_
        first
          | exact q_l h (by rw [if_neg (by omega), fitP_w w1]; rfl)
          | exact q_l h (by rw [if_pos (by omega), fitP_w w1, fitP_w w1, fitP_w w1, lN_add, lN_add]; rfl)
      · skip
        refine G_aload_n (pc := 41) dX10_fitting_41 rfl rfl ?_
        refine G_iload_n (pc := 42) dX10_fitting_42 rfl rfl ?_
        refine S_callV (av := [_]) (pc := 43) (z := mX10_fittingOf) (ci := 9) dX10_fitting_43 zX10_fittingOf lX10_fitting_212 rfl (by first | rfl | assumption) rfl rfl (sX10_fittingOf (by omega) a1 a2 a3 a4 a6 a7 (fun i hi => (a9 i hi).2) a8 ⟨_, rfl, ?_⟩)
        refine G_goto (pc := 46) (tgt := 66) dX10_fitting_46 (by decide) ?_
        refine S_lret (pc := 66) dX10_fitting_66 rfl ?_
        first
          | exact q_l h (by rw [if_neg (by omega), fitP_w w1]; rfl)
          | exact q_l h (by rw [if_pos (by omega), fitP_w w1, fitP_w w1, fitP_w w1, lN_add, lN_add]; rfl)
    · skip
      rw [if_pos (List.length_eq_zero_iff.mp c21)] at h
      refine G_ldc2 (pc := 24) dX10_fitting_24 kX10_203 ?_
      refine S_lret (pc := 27) dX10_fitting_27 rfl ?_
      exact h S Fr.rf hi.2.2.1
  · skip
    rw [decide_eq_false_iff_not, Int32.toInt_toInt64, z0, z3] at c9
    refine G_ldc2 (pc := 12) dX10_fitting_12 kX10_109 ?_
    refine S_lret (pc := 15) dX10_fitting_15 rfl ?_
    exact q_l (h S Fr.rf hi.2.2.1) (by unfold sp_fitting; rw [if_neg c9])
/-- what is answered where something is shown and fits, v -/
def lackS (S : ST) (v : Int32) : Int32 := if shL S 0 = [] then -2 else if neA S (shL S 0) = [] then -4 else v
theorem lackS_2 {S : ST} {v : Int32} (h : shL S 0 = []) : lackS S v = -2 := by unfold lackS; rw [if_pos h]
theorem lackS_4 {S : ST} {v : Int32} (h : shL S 0 ≠ []) (h2 : neA S (shL S 0) = []) : lackS S v = -4 := by unfold lackS; rw [if_neg h, if_pos h2]
theorem lackS_0 {S : ST} {v : Int32} (h : shL S 0 ≠ []) (h2 : neA S (shL S 0) ≠ []) : lackS S v = v := by unfold lackS; rw [if_neg h, if_neg h2]
def sp_shortest (S : ST) (w : Int32) : Int32 := if 0 ≤ w.toInt ∧ w.toInt ≤ 4 then lackS S (tolP (nr0 S) w.toNatClampNeg) else -1
theorem NeIs0 {S : ST} {N : List (List Nat)} (h : NeIs S N) (h1 : N ≠ []) : PrIs S 404 0 (N.getD 0 []) := h.2.2 0 (List.length_pos_iff.mpr h1)
set_option maxRecDepth 100000 in
set_option maxHeartbeats 4000000 in
theorem sX10_shortest {w : Int32} (hi : MI0 S) (h : ∀ S', Fr wX wA S S' → MIe S' → Q (some (aI (sp_shortest S w))) (mk S')) : CT sc mX10_shortest [aR 389, aI w] (mk S) Q := by
  refine S_of (by decide) rfl ?_
  show G sc mX10_shortest 0 [some (aR 389), some (aI w), none] [] (mk S) Q
  have z0 : (0 : Int64).toInt = 0 := rfl
  have z4 : (4 : Int64).toInt = 4 := rfl
  refine G_iload_n (pc := 0) dX10_shortest_0 rfl rfl ?_
  refine G_i2l (pc := 1) dX10_shortest_1 ?_
  refine G_lconst (pc := 2) (v := 0) dX10_shortest_2 (by decide) ?_
  refine G_ldc2 (pc := 3) dX10_shortest_3 kX10_233 ?_
  refine S_callS (av := [_, _, _]) (pc := 6) (z := mX10_in) dX10_shortest_6 zX10_in lX10_shortest_84 rfl (sX10_in ⟨_, rfl, ?_⟩)
  refine B_if_ne (pc := 9) (tgt := 14) dX10_shortest_9 (by decide) (fun c9 => ?_) (fun c9 => ?_)
  · skip
    rw [decide_eq_true_iff, Int32.toInt_toInt64, z0, z4] at c9
    unfold sp_shortest at h
    rw [if_pos c9] at h
    obtain ⟨k, hk, rfl⟩ := nI_ex (x := w) (n := 5) (by omega) (by omega)
    rw [nI_clamp (by omega)] at h
    refine G_aload_n (pc := 14) dX10_shortest_14 rfl rfl ?_
    refine S_callV (av := []) (pc := 15) (z := mX10_lacksFit) (ci := 9) dX10_shortest_15 zX10_lacksFit lX10_shortest_235 rfl (by first | rfl | assumption) rfl rfl (sX10_lacksFit hi (fun e => ⟨_, rfl, ?_⟩) (fun e1 e2 S1 g1 g2 => ⟨_, rfl, ?_⟩) (fun e1 e2 S1 g1 g2 g3 => ⟨_, rfl, ?_⟩))
    · rw [lackS_2 e] at h
      refine G_istore_n (pc := 18) dX10_shortest_18 rfl (by decide) rfl ?_
      refine G_iload_n (pc := 19) dX10_shortest_19 rfl rfl ?_
      refine T_if_ge (pc := 20) (tgt := 27) dX10_shortest_20 (by decide) (fun c20 => absurd c20 (by decide)) (fun c20 => ?_)
      refine G_iload_n (pc := 23) dX10_shortest_23 rfl rfl ?_
      refine G_goto (pc := 24) (tgt := 36) dX10_shortest_24 (by decide) ?_
      refine S_iret (pc := 36) dX10_shortest_36 rfl ?_
      exact h S Fr.rf hi.2.2.1
    · rw [lackS_4 e1 e2] at h
      refine G_istore_n (pc := 18) dX10_shortest_18 rfl (by decide) rfl ?_
      refine G_iload_n (pc := 19) dX10_shortest_19 rfl rfl ?_
      refine T_if_ge (pc := 20) (tgt := 27) dX10_shortest_20 (by decide) (fun c20 => absurd c20 (by decide)) (fun c20 => ?_)
      refine G_iload_n (pc := 23) dX10_shortest_23 rfl rfl ?_
      refine G_goto (pc := 24) (tgt := 36) dX10_shortest_24 (by decide) ?_
      refine S_iret (pc := 36) dX10_shortest_36 rfl ?_
      exact h S1 g1 g2
    rw [lackS_0 e1 e2] at h
    have hp := nr0_ok hi e1 e2
    skip
    refine G_istore_n (pc := 18) dX10_shortest_18 rfl (by decide) rfl ?_
    refine G_iload_n (pc := 19) dX10_shortest_19 rfl rfl ?_
    refine N_if_ge (pc := 20) (tgt := 27) dX10_shortest_20 (by decide) (by omega) ?_
    refine G_aload_n (pc := 27) dX10_shortest_27 rfl rfl ?_
    refine S_getR (pc := 28) (b := 404) dX10_shortest_28 fX10_53 rfl rfl (by first | rfl | assumption) rfl rfl ?_
    refine G_iconst (pc := 31) (v := nI 0) dX10_shortest_31 (by decide) ?_
    refine G_iload_n (pc := 32) dX10_shortest_32 rfl rfl ?_
    refine S_callS (av := [_, _, _]) (pc := 33) (z := mX10_toldOf) dX10_shortest_33 zX10_toldOf lX10_shortest_239 rfl (sX10_toldOf (z := 192) (ps := nr0 S) rfl rfl (by omega) (by omega) (NeIs0 g3 e2) hp.2.1 ⟨_, rfl, ?_⟩)
    refine S_iret (pc := 36) dX10_shortest_36 rfl ?_
    exact h S1 g1 g2
  · skip
    rw [decide_eq_false_iff_not, Int32.toInt_toInt64, z0, z4] at c9
    refine G_iconst (pc := 12) (v := (-1)) dX10_shortest_12 (by decide) ?_
    refine S_iret (pc := 13) dX10_shortest_13 rfl ?_
    exact q_i (h S Fr.rf hi.2.2.1) (by unfold sp_shortest; rw [if_neg c9])
def outV (S : ST) (t : Nat) (ps : List Nat) (i : Int32) : Int32 := match runP (lnB S t) (szN S t) ps with
  | some l => told l i
  | none => -4
def sp_paper (S : ST) (t i : Int32) : Int32 := if isTh (thN S) t = true ∧ -1 ≤ i.toInt then lackS S (outV S t.toNatClampNeg (nr0 S) i) else -1
theorem wSz {S S1 : ST} (g : Fr wX wA S S1) (t : Nat) : S1.2.1 391 t = S.2.1 391 t := g.2.1 391 (by omega) t
theorem wLn {S S1 : ST} (g : Fr wX wA S S1) (t : Nat) : (fun j => S1.2.1 390 (16 * t + j)) = lnB S t := by funext j; exact g.2.1 390 (by omega) _
theorem MIe_o {S S' : ST} (g : Fr oX oA S S') (h : MIe S) : MIe S' := MIe_k h (g.1 389 18 (by omega)) (fun a ha i => g.2.1 a (by omega) i)
theorem runP_le {b : Nat → Int32} {n : Nat} {ps : List Nat} {q : List Int32} (hn : n ≤ 16) (h : PgOk ps) (e : runP b n ps = some q) : q.length ≤ 36 := by
  rcases runP_len hn ps 0 q h.1 e (Or.inl (by omega)) with h1 | h1
  · omega
  · exact absurd h1 h.2.2.1
set_option maxRecDepth 100000 in
set_option maxHeartbeats 4000000 in
theorem sX10_paper {t i : Int32} (hi : MI0 S) (h : ∀ S', Fr wX wA S S' → MIe S' → Q (some (aI (sp_paper S t i))) (mk S')) : CT sc mX10_paper [aR 389, aI t, aI i] (mk S) Q := by
  refine S_of (by decide) rfl ?_
  show G sc mX10_paper 0 [some (aR 389), some (aI t), some (aI i), none] [] (mk S) Q
  have hn := hi.1.1
  have z1 : (-1 : Int32).toInt = -1 := rfl
  refine G_aload_n (pc := 0) dX10_paper_0 rfl rfl ?_
  refine G_iload_n (pc := 1) dX10_paper_1 rfl rfl ?_
  refine S_callV (av := [_]) (pc := 2) (z := mX10_isThing) (ci := 9) dX10_paper_2 zX10_isThing lX10_paper_105 rfl (by first | rfl | assumption) rfl rfl (sX10_isThing hn.1 (by omega) ⟨_, rfl, ?_⟩)
  refine B_if_eq (pc := 5) (tgt := 13) dX10_paper_5 (by decide) (fun c5 => ?_) (fun c5 => ?_)
  · skip
    refine G_iconst (pc := 13) (v := (-1)) dX10_paper_13 (by decide) ?_
    refine S_iret (pc := 14) dX10_paper_14 rfl ?_
    exact q_i (h S Fr.rf hi.2.2.1) (by unfold sp_paper; rw [if_neg (by first | omega | (intro q; rw [c5] at q; exact absurd q.1 (by decide)))])
  · skip
    refine G_iload_n (pc := 8) dX10_paper_8 rfl rfl ?_
    refine G_iconst (pc := 9) (v := (-1)) dX10_paper_9 (by decide) ?_
    refine T_icmp_ge (pc := 10) (tgt := 15) dX10_paper_10 (by decide) (fun c10 => ?_) (fun c10 => ?_)
    · skip
      rw [z1] at c10
      unfold sp_paper at h
      rw [if_pos ⟨c5, by omega⟩] at h
      obtain ⟨k, hk, rfl⟩ := isTh_of c5
      rw [nI_clamp (by omega)] at h
      have hs := hi.1.2 k hk
      refine G_aload_n (pc := 15) dX10_paper_15 rfl rfl ?_
      refine S_callV (av := []) (pc := 16) (z := mX10_lacksFit) (ci := 9) dX10_paper_16 zX10_lacksFit lX10_paper_235 rfl (by first | rfl | assumption) rfl rfl (sX10_lacksFit hi (fun e => ⟨_, rfl, ?_⟩) (fun e1 e2 S1 g1 g2 => ⟨_, rfl, ?_⟩) (fun e1 e2 S1 g1 g2 g3 => ⟨_, rfl, ?_⟩))
      · rw [lackS_2 e] at h
        refine G_istore_n (pc := 19) dX10_paper_19 rfl (by decide) rfl ?_
        refine G_iload_n (pc := 20) dX10_paper_20 rfl rfl ?_
        refine T_if_ge (pc := 21) (tgt := 26) dX10_paper_21 (by decide) (fun c21 => absurd c21 (by decide)) (fun c21 => ?_)
        refine G_iload_n (pc := 24) dX10_paper_24 rfl rfl ?_
        refine S_iret (pc := 25) dX10_paper_25 rfl ?_
        exact h S Fr.rf hi.2.2.1
      · rw [lackS_4 e1 e2] at h
        refine G_istore_n (pc := 19) dX10_paper_19 rfl (by decide) rfl ?_
        refine G_iload_n (pc := 20) dX10_paper_20 rfl rfl ?_
        refine T_if_ge (pc := 21) (tgt := 26) dX10_paper_21 (by decide) (fun c21 => absurd c21 (by decide)) (fun c21 => ?_)
        refine G_iload_n (pc := 24) dX10_paper_24 rfl rfl ?_
        refine S_iret (pc := 25) dX10_paper_25 rfl ?_
        exact h S1 g1 g2
      rw [lackS_0 e1 e2] at h
      have hp := nr0_ok hi e1 e2
      skip
      refine G_istore_n (pc := 19) dX10_paper_19 rfl (by decide) rfl ?_
      refine G_iload_n (pc := 20) dX10_paper_20 rfl rfl ?_
      refine N_if_ge (pc := 21) (tgt := 26) dX10_paper_21 (by decide) (by omega) ?_
      refine G_aload_n (pc := 26) dX10_paper_26 rfl rfl ?_
      refine G_aload_n (pc := 27) dX10_paper_27 rfl rfl ?_
      refine S_getR (pc := 28) (b := 404) dX10_paper_28 fX10_53 rfl rfl (by first | rfl | assumption) rfl rfl ?_
      refine G_iconst (pc := 31) (v := nI 0) dX10_paper_31 (by decide) ?_
      refine G_iload_n (pc := 32) dX10_paper_32 rfl rfl ?_
      refine S_callV (av := [_, _, _]) (pc := 33) (z := mX10_runRow) (ci := 9) dX10_paper_33 zX10_runRow lX10_paper_243 rfl (by first | rfl | assumption) rfl rfl (sX10_runRow (z := 192) (n := szN S k) (ps := nr0 S) (by omega) ((wSz g1 k).trans hs.1) hs.2.2.1 rfl rfl (by omega) (by omega) (NeIs0 g3 e2) hp.1 (fun S2 q k1 k2 k3 => ⟨_, rfl, ?_⟩) (fun k1 S2 k2 k3 => ⟨_, rfl, ?_⟩))
      · rw [wLn g1] at k1
        unfold outV at h
        rw [k1] at h
        have hq := runP_le hs.2.2.1 hp k1
        refine B_if_eq (pc := 36) (tgt := 47) dX10_paper_36 (by decide) (fun c36 => absurd c36 (by decide)) (fun c36 => ?_)
        refine G_aload_n (pc := 39) dX10_paper_39 rfl rfl ?_
        refine G_iload_n (pc := 40) dX10_paper_40 rfl rfl ?_
        refine S_callV (av := [_]) (pc := 41) (z := mX10_byteOf) (ci := 9) dX10_paper_41 zX10_byteOf lX10_paper_161 rfl (by first | rfl | assumption) rfl rfl (sX10_byteOf k3 (by omega) ⟨_, rfl, ?_⟩)
        refine G_goto (pc := 44) (tgt := 49) dX10_paper_44 (by decide) ?_
        refine S_iret (pc := 49) dX10_paper_49 rfl ?_
        exact h S2 (g1.tr (wO k2)) (MIe_o k2 g2)
      rw [wLn g1] at k1
      unfold outV at h
      rw [k1] at h
      skip
      refine B_if_eq (pc := 36) (tgt := 47) dX10_paper_36 (by decide) (fun c36 => ?_) (fun c36 => absurd c36 (by decide))
      refine G_bipush (pc := 47) (v := (-4)) dX10_paper_47 (by decide) ?_
      refine S_iret (pc := 49) dX10_paper_49 rfl ?_
      exact h S2 (g1.tr (wO k2)) (MIe_o k2 g2)
    · skip
      rw [z1] at c10
      refine G_iconst (pc := 13) (v := (-1)) dX10_paper_13 (by decide) ?_
      refine S_iret (pc := 14) dX10_paper_14 rfl ?_
      exact q_i (h S Fr.rf hi.2.2.1) (by unfold sp_paper; rw [if_neg (by first | omega | (intro q; rw [c5] at q; exact absurd q.1 (by decide)))])
end M30
