/-! the class: what it holds beside what the reference holds; small methods -/
/-- what may change, Fit.shown too -/
def FrN (px : Nat → Nat → Prop) (pi : Nat → Prop) (S S' : ST) : Prop := (∀ a j, ¬ px a j → S'.1 a j = S.1 a j) ∧ ∀ a, ¬ pi a → ∀ j, S'.2.1 a j = S.2.1 a j
theorem FrN.rf {px : Nat → Nat → Prop} {pi : Nat → Prop} {S : ST} : FrN px pi S S := ⟨fun _ _ _ => rfl, fun _ _ _ => rfl⟩
theorem FrN.tr {px : Nat → Nat → Prop} {pi : Nat → Prop} {S S1 S2 : ST} (h1 : FrN px pi S S1) (h2 : FrN px pi S1 S2) : FrN px pi S S2 := ⟨fun a j h => (h2.1 a j h).trans (h1.1 a j h), fun a h j => (h2.2 a h j).trans (h1.2 a h j)⟩
theorem FrN.mono {px qx : Nat → Nat → Prop} {pi qi : Nat → Prop} {S S1 : ST} (h : FrN px pi S S1) (h1 : ∀ a j, px a j → qx a j) (h2 : ∀ a, pi a → qi a) : FrN qx qi S S1 := ⟨fun a j q => h.1 a j (fun z => q (h1 a j z)), fun a q j => h.2 a (fun z => q (h2 a z)) j⟩
theorem Fr.n {px : Nat → Nat → Prop} {pi : Nat → Prop} {S S' : ST} (h : Fr px pi S S') : FrN px pi S S' := ⟨h.1, h.2.1⟩
theorem LnIs.fn {S S' : ST} {a : Nat} {b : Nat → Int32} {n : Nat} {px : Nat → Nat → Prop} {pi : Nat → Prop} (h : LnIs S a b n) (g : FrN px pi S S') (h1 : ¬ px (a + 1) 1) (h2 : ¬ pi (a + 1 + 1)) : LnIs S' a b n := ⟨(g.1 _ _ h1).trans h.1, fun j hj => (g.2 _ h2 j).trans (h.2 j hj)⟩
theorem PlIs.fn {S S' : ST} {a : Nat} {b : Nat → Int32} {n : Nat} {px : Nat → Nat → Prop} {pi : Nat → Prop} (h : PlIs S a b n) (g : FrN px pi S S') (h2 : ¬ pi (a + 3)) : PlIs S' a b n := fun p hp => (g.2 _ h2 p).trans (h p hp)
theorem EnIs.fn {S S' : ST} {a : Nat} {b : Nat → Int32} {n : Nat} {px : Nat → Nat → Prop} {pi : Nat → Prop} (h : EnIs S a b n) (g : FrN px pi S S') (h1 : ¬ px (a + 4) 1) (h2 : ¬ pi (a + 4 + 1)) : EnIs S' a b n := ⟨(g.1 _ _ h1).trans h.1, fun j hj => (g.2 _ h2 j).trans (h.2 j hj)⟩
theorem SpIs.fn {S S' : ST} {a n m : Nat} {b e : Nat → Int32} {px : Nat → Nat → Prop} {pi : Nat → Prop} (h : SpIs S a b n e m) (g : FrN px pi S S') (h2 : ¬ pi (a + 6)) : SpIs S' a b n e m := fun x y hx hy => by
  obtain ⟨v, h1, h3, h4⟩ := h x y hx hy
  exact ⟨v, h1, (g.2 _ h2 _).trans h3, h4⟩
/-- a thing of the class -/
def CT1 (S0 S : ST) (t : Nat) : Prop := LnIs S (289 + 7 * t) (lnB S0 t) (szN S0 t) ∧ PlIs S (289 + 7 * t) (lnB S0 t) (szN S0 t) ∧ S.1 (289 + 7 * t) 3 = nI (stN S0 t) ∧ (stN S0 t = 1 ∨ stN S0 t = 2 → EnIs S (289 + 7 * t) (enB S0 t) (esN S0 t)) ∧ (stN S0 t = 1 → SpIs S (289 + 7 * t) (lnB S0 t) (szN S0 t) (enB S0 t) (esN S0 t))
def CTh (S0 S : ST) : Prop := S.1 0 3 = nI (thN S0) ∧ ∀ t, t < 12 → (t < thN S0 → CT1 S0 S t) ∧ (thN S0 ≤ t → S.1 (289 + 7 * t) 3 = nI 0)
theorem CT1.fn {S0 S S' : ST} {t : Nat} {px : Nat → Nat → Prop} {pi : Nat → Prop} (h : CT1 S0 S t) (g : FrN px pi S S') (h1 : ∀ j, j < 7 → ∀ i, ¬ px (289 + 7 * t + j) i) (h2 : ∀ j, j < 7 → ¬ pi (289 + 7 * t + j)) : CT1 S0 S' t := by
  obtain ⟨a1, a2, a3, a4, a5⟩ := h
  exact ⟨a1.fn g (h1 1 (by omega) 1) (h2 2 (by omega)), a2.fn g (h2 3 (by omega)), (g.1 _ _ (h1 0 (by omega) 3)).trans a3, fun q => (a4 q).fn g (h1 4 (by omega) 1) (h2 5 (by omega)), fun q => (a5 q).fn g (h2 6 (by omega))⟩
theorem CTh.fn {S0 S S' : ST} {px : Nat → Nat → Prop} {pi : Nat → Prop} (h : CTh S0 S) (g : FrN px pi S S') (h0 : ¬ px 0 3) (h1 : ∀ a j, 289 ≤ a → a ≤ 372 → ¬ px a j) (h2 : ∀ a, 289 ≤ a → a ≤ 372 → ¬ pi a) : CTh S0 S' :=
  ⟨(g.1 _ _ h0).trans h.1, fun t ht => ⟨fun q => ((h.2 t ht).1 q).fn g (fun j hj i => h1 _ _ (by omega) (by omega)) (fun j hj => h2 _ (by omega) (by omega)), fun q => (g.1 _ _ (h1 _ _ (by omega) (by omega))).trans ((h.2 t ht).2 q)⟩⟩
theorem thB {S : ST} (h : MIa S) : thN S ≤ 12 := h.1.2
section C20
variable {sc : SC} {S : ST} {Q : Option AV → HM → Prop}
set_option maxRecDepth 100000 in
set_option maxHeartbeats 4000000 in
theorem sX9_isThing {t : Int32} {n : Nat} (hn : S.1 0 3 = nI n) (hn2 : n < 1000) (h : Q (some (aI (bI (isTh n t)))) (mk S)) : CT sc mX9_isThing [aR 0, aI t] (mk S) Q := by
  refine S_of (by decide) rfl ?_
  show G sc mX9_isThing 0 [some (aR 0), some (aI t)] [] (mk S) Q
  unfold isTh at h
  refine G_iload_n (pc := 0) dX9_isThing_0 rfl rfl ?_
  refine T_if_lt (pc := 1) (tgt := 16) dX9_isThing_1 (by decide) (fun c1 => ?_) (fun c1 => ?_)
  · skip
    refine G_iconst (pc := 16) (v := nI 0) dX9_isThing_16 (by decide) ?_
    refine S_zret (pc := 17) dX9_isThing_17 rfl rfl ?_
    exact q_i h (by first | exact z_f (by simp; omega) | exact z_t (by simp; omega))
  · skip
    refine G_iload_n (pc := 4) dX9_isThing_4 rfl rfl ?_
    refine G_aload_n (pc := 5) dX9_isThing_5 rfl rfl ?_
    refine S_getI (pc := 6) dX9_isThing_6 fX9_27 rfl (by first | rfl | assumption) rfl ?_
    rw [hn]
    refine T_icmp_ge (pc := 9) (tgt := 16) dX9_isThing_9 (by decide) (fun c9 => ?_) (fun c9 => ?_)
    · skip
      rw [nIt (by omega)] at c9
      refine G_iconst (pc := 16) (v := nI 0) dX9_isThing_16 (by decide) ?_
      refine S_zret (pc := 17) dX9_isThing_17 rfl rfl ?_
      exact q_i h (by first | exact z_f (by simp; omega) | exact z_t (by simp; omega))
    · skip
      rw [nIt (by omega)] at c9
      refine G_iconst (pc := 12) (v := nI 1) dX9_isThing_12 (by decide) ?_
      refine G_goto (pc := 13) (tgt := 17) dX9_isThing_13 (by decide) ?_
      refine S_zret (pc := 17) dX9_isThing_17 rfl rfl ?_
      exact q_i h (by first | exact z_f (by simp; omega) | exact z_t (by simp; omega))
set_option maxRecDepth 100000 in
set_option maxHeartbeats 4000000 in
theorem sX9_isProgram {t : Int32} {n : Nat} (hn : S.1 0 11 = nI n) (hn2 : n < 1000) (h : Q (some (aI (bI (isTh n t)))) (mk S)) : CT sc mX9_isProgram [aR 0, aI t] (mk S) Q := by
  refine S_of (by decide) rfl ?_
  show G sc mX9_isProgram 0 [some (aR 0), some (aI t)] [] (mk S) Q
  unfold isTh at h
  refine G_iload_n (pc := 0) dX9_isProgram_0 rfl rfl ?_
  refine T_if_lt (pc := 1) (tgt := 16) dX9_isProgram_1 (by decide) (fun c1 => ?_) (fun c1 => ?_)
  · skip
    refine G_iconst (pc := 16) (v := nI 0) dX9_isProgram_16 (by decide) ?_
    refine S_zret (pc := 17) dX9_isProgram_17 rfl rfl ?_
    exact q_i h (by first | exact z_f (by simp; omega) | exact z_t (by simp; omega))
  · skip
    refine G_iload_n (pc := 4) dX9_isProgram_4 rfl rfl ?_
    refine G_aload_n (pc := 5) dX9_isProgram_5 rfl rfl ?_
    refine S_getI (pc := 6) dX9_isProgram_6 fX9_65 rfl (by first | rfl | assumption) rfl ?_
    rw [hn]
    refine T_icmp_ge (pc := 9) (tgt := 16) dX9_isProgram_9 (by decide) (fun c9 => ?_) (fun c9 => ?_)
    · skip
      rw [nIt (by omega)] at c9
      refine G_iconst (pc := 16) (v := nI 0) dX9_isProgram_16 (by decide) ?_
      refine S_zret (pc := 17) dX9_isProgram_17 rfl rfl ?_
      exact q_i h (by first | exact z_f (by simp; omega) | exact z_t (by simp; omega))
    · skip
      rw [nIt (by omega)] at c9
      refine G_iconst (pc := 12) (v := nI 1) dX9_isProgram_12 (by decide) ?_
      refine G_goto (pc := 13) (tgt := 17) dX9_isProgram_13 (by decide) ?_
      refine S_zret (pc := 17) dX9_isProgram_17 rfl rfl ?_
      exact q_i h (by first | exact z_f (by simp; omega) | exact z_t (by simp; omega))
set_option maxRecDepth 100000 in
set_option maxHeartbeats 4000000 in
theorem sX9_isCut {c : Int32} (h : Q (some (aI (bI (isCutB c)))) (mk S)) : CT sc mX9_isCut [aI c] (mk S) Q := by
  refine S_of (by decide) rfl ?_
  show G sc mX9_isCut 0 [some (aI c)] [] (mk S) Q
  have z1 : (nI 4800).toInt = 4800 := rfl
  unfold isCutB at h
  refine G_iload_n (pc := 0) dX9_isCut_0 rfl rfl ?_
  refine T_if_lt (pc := 1) (tgt := 15) dX9_isCut_1 (by decide) (fun c1 => ?_) (fun c1 => ?_)
  · skip
    refine G_iconst (pc := 15) (v := nI 0) dX9_isCut_15 (by decide) ?_
    refine S_zret (pc := 16) dX9_isCut_16 rfl rfl ?_
    exact q_i h (by first | exact z_f (by simp; omega) | exact z_t (by simp; omega))
  · skip
    refine G_iload_n (pc := 4) dX9_isCut_4 rfl rfl ?_
    refine G_sipush (pc := 5) (v := nI 4800) dX9_isCut_5 (by decide) ?_
    refine T_icmp_ge (pc := 8) (tgt := 15) dX9_isCut_8 (by decide) (fun c8 => ?_) (fun c8 => ?_)
    · skip
      rw [z1] at c8
      refine G_iconst (pc := 15) (v := nI 0) dX9_isCut_15 (by decide) ?_
      refine S_zret (pc := 16) dX9_isCut_16 rfl rfl ?_
      exact q_i h (by first | exact z_f (by simp; omega) | exact z_t (by simp; omega))
    · skip
      rw [z1] at c8
      refine G_iconst (pc := 11) (v := nI 1) dX9_isCut_11 (by decide) ?_
      refine G_goto (pc := 12) (tgt := 16) dX9_isCut_12 (by decide) ?_
      refine S_zret (pc := 16) dX9_isCut_16 rfl rfl ?_
      exact q_i h (by first | exact z_f (by simp; omega) | exact z_t (by simp; omega))
set_option maxRecDepth 100000 in
set_option maxHeartbeats 4000000 in
theorem sX9_isSheet {s : Int32} (h : Q (some (aI (bI (decide (0 ≤ s.toInt ∧ s.toInt ≤ 3))))) (mk S)) : CT sc mX9_isSheet [aI s] (mk S) Q := by
  refine S_of (by decide) rfl ?_
  show G sc mX9_isSheet 0 [some (aI s)] [] (mk S) Q
  have z1 : (nI 4).toInt = 4 := rfl
  refine G_iload_n (pc := 0) dX9_isSheet_0 rfl rfl ?_
  refine T_if_lt (pc := 1) (tgt := 13) dX9_isSheet_1 (by decide) (fun c1 => ?_) (fun c1 => ?_)
  · skip
    refine G_iconst (pc := 13) (v := nI 0) dX9_isSheet_13 (by decide) ?_
    refine S_zret (pc := 14) dX9_isSheet_14 rfl rfl ?_
    exact q_i h (by first | exact z_f (by simp; omega) | exact z_t (by simp; omega))
  · skip
    refine G_iload_n (pc := 4) dX9_isSheet_4 rfl rfl ?_
    refine G_iconst (pc := 5) (v := nI 4) dX9_isSheet_5 (by decide) ?_
    refine T_icmp_ge (pc := 6) (tgt := 13) dX9_isSheet_6 (by decide) (fun c6 => ?_) (fun c6 => ?_)
    · skip
      rw [z1] at c6
      refine G_iconst (pc := 13) (v := nI 0) dX9_isSheet_13 (by decide) ?_
      refine S_zret (pc := 14) dX9_isSheet_14 rfl rfl ?_
      exact q_i h (by first | exact z_f (by simp; omega) | exact z_t (by simp; omega))
    · skip
      rw [z1] at c6
      refine G_iconst (pc := 9) (v := nI 1) dX9_isSheet_9 (by decide) ?_
      refine G_goto (pc := 10) (tgt := 14) dX9_isSheet_10 (by decide) ?_
      refine S_zret (pc := 14) dX9_isSheet_14 rfl rfl ?_
      exact q_i h (by first | exact z_f (by simp; omega) | exact z_t (by simp; omega))
set_option maxRecDepth 100000 in
set_option maxHeartbeats 4000000 in
theorem sX9_isLane {s : Int32} (h : Q (some (aI (bI (decide (0 ≤ s.toInt ∧ s.toInt ≤ 2))))) (mk S)) : CT sc mX9_isLane [aI s] (mk S) Q := by
  refine S_of (by decide) rfl ?_
  show G sc mX9_isLane 0 [some (aI s)] [] (mk S) Q
  have z1 : (nI 3).toInt = 3 := rfl
  refine G_iload_n (pc := 0) dX9_isLane_0 rfl rfl ?_
  refine T_if_lt (pc := 1) (tgt := 13) dX9_isLane_1 (by decide) (fun c1 => ?_) (fun c1 => ?_)
  · skip
    refine G_iconst (pc := 13) (v := nI 0) dX9_isLane_13 (by decide) ?_
    refine S_zret (pc := 14) dX9_isLane_14 rfl rfl ?_
    exact q_i h (by first | exact z_f (by simp; omega) | exact z_t (by simp; omega))
  · skip
    refine G_iload_n (pc := 4) dX9_isLane_4 rfl rfl ?_
    refine G_iconst (pc := 5) (v := nI 3) dX9_isLane_5 (by decide) ?_
    refine T_icmp_ge (pc := 6) (tgt := 13) dX9_isLane_6 (by decide) (fun c6 => ?_) (fun c6 => ?_)
    · skip
      rw [z1] at c6
      refine G_iconst (pc := 13) (v := nI 0) dX9_isLane_13 (by decide) ?_
      refine S_zret (pc := 14) dX9_isLane_14 rfl rfl ?_
      exact q_i h (by first | exact z_f (by simp; omega) | exact z_t (by simp; omega))
    · skip
      rw [z1] at c6
      refine G_iconst (pc := 9) (v := nI 1) dX9_isLane_9 (by decide) ?_
      refine G_goto (pc := 10) (tgt := 14) dX9_isLane_10 (by decide) ?_
      refine S_zret (pc := 14) dX9_isLane_14 rfl rfl ?_
      exact q_i h (by first | exact z_f (by simp; omega) | exact z_t (by simp; omega))
set_option maxRecDepth 100000 in
set_option maxHeartbeats 4000000 in
theorem sX9_isLineByte {s : Int32} (h : Q (some (aI (bI (decide (32 ≤ s.toInt ∧ s.toInt ≤ 126))))) (mk S)) : CT sc mX9_isLineByte [aI s] (mk S) Q := by
  refine S_of (by decide) rfl ?_
  show G sc mX9_isLineByte 0 [some (aI s)] [] (mk S) Q
  have z1 : (nI 32).toInt = 32 := rfl
  have z2 : (nI 126).toInt = 126 := rfl
  refine G_iload_n (pc := 0) dX9_isLineByte_0 rfl rfl ?_
  refine G_bipush (pc := 1) (v := nI 32) dX9_isLineByte_1 (by decide) ?_
  refine T_icmp_lt (pc := 3) (tgt := 16) dX9_isLineByte_3 (by decide) (fun c3 => ?_) (fun c3 => ?_)
  · skip
    rw [z1] at c3
    refine G_iconst (pc := 16) (v := nI 0) dX9_isLineByte_16 (by decide) ?_
    refine S_zret (pc := 17) dX9_isLineByte_17 rfl rfl ?_
    exact q_i h (by first | exact z_f (by simp; omega) | exact z_t (by simp; omega))
  · skip
    rw [z1] at c3
    refine G_iload_n (pc := 6) dX9_isLineByte_6 rfl rfl ?_
    refine G_bipush (pc := 7) (v := nI 126) dX9_isLineByte_7 (by decide) ?_
    refine T_icmp_gt (pc := 9) (tgt := 16) dX9_isLineByte_9 (by decide) (fun c9 => ?_) (fun c9 => ?_)
    · skip
      rw [z2] at c9
      refine G_iconst (pc := 16) (v := nI 0) dX9_isLineByte_16 (by decide) ?_
      refine S_zret (pc := 17) dX9_isLineByte_17 rfl rfl ?_
      exact q_i h (by first | exact z_f (by simp; omega) | exact z_t (by simp; omega))
    · skip
      rw [z2] at c9
      refine G_iconst (pc := 12) (v := nI 1) dX9_isLineByte_12 (by decide) ?_
      refine G_goto (pc := 13) (tgt := 17) dX9_isLineByte_13 (by decide) ?_
      refine S_zret (pc := 17) dX9_isLineByte_17 rfl rfl ?_
      exact q_i h (by first | exact z_f (by simp; omega) | exact z_t (by simp; omega))
set_option maxRecDepth 100000 in
set_option maxHeartbeats 4000000 in
theorem sX9_showingChanged (h : Q none (mk (upX (upX S 0 5 (nI 0)) 0 6 (-1)))) : CT sc mX9_showingChanged [aR 0] (mk S) Q := by
  refine S_of (by decide) rfl ?_
  show G sc mX9_showingChanged 0 [some (aR 0)] [] (mk S) Q
  refine G_aload_n (pc := 0) dX9_showingChanged_0 rfl rfl ?_
  refine G_iconst (pc := 1) (v := nI 0) dX9_showingChanged_1 (by decide) ?_
  refine S_putZ (pc := 2) dX9_showingChanged_2 fX9_38 (by decide) ⟨rfl, rfl⟩ rfl (by first | rfl | assumption) rfl ?_
  refine G_aload_n (pc := 5) dX9_showingChanged_5 rfl rfl ?_
  refine G_iconst (pc := 6) (v := (-1)) dX9_showingChanged_6 (by decide) ?_
  refine S_putI (pc := 7) dX9_showingChanged_7 fX9_42 (by decide) rfl (by first | rfl | assumption) rfl ?_
  refine S_vret (pc := 10) dX9_showingChanged_10 rfl ?_
  exact h
set_option maxRecDepth 100000 in
set_option maxHeartbeats 4000000 in
theorem howMany_lp {S0 : ST} {q : Int32} (hb : MIb S0) (hth : thN S0 ≤ 12) (hC : CTh S0 S) (h : Q (some (aI (nI (cntS S0 q (thN S0))))) (mk S)) :
    ∀ (d i : Nat), i + d = thN S0 → G sc mX9_howMany 4 [some (aR 0), some (aI q), some (aI (nI (cntS S0 q i))), some (aI (nI i))] [] (mk S) Q := by
  intro d
  induction d with
  | zero =>
    intro i hi
    have e : i = thN S0 := by omega
    subst e
    refine G_iload_n (pc := 4) dX9_howMany_4 rfl rfl ?_
    refine G_aload_n (pc := 5) dX9_howMany_5 rfl rfl ?_
    refine S_getI (pc := 6) dX9_howMany_6 fX9_27 rfl (by first | rfl | assumption) rfl ?_
    rw [hC.1]
    refine N_icmp_ge (pc := 9) (tgt := 34) dX9_howMany_9 (by decide) (by omega) (fun c9 => ?_) (fun c9 => absurd c9 (by omega))
    refine G_iload_n (pc := 34) dX9_howMany_34 rfl rfl ?_
    refine S_iret (pc := 35) dX9_howMany_35 rfl ?_
    exact h
  | succ d ih =>
    intro i hi
    have hc := (hC.2 i (by omega)).1 (by omega)
    obtain ⟨k0, k1, k2, k3, k4, k5, k6⟩ := ThK_t i (by omega)
    have hst := (hb i (by omega)).1.1
    have e0 : cntS S0 q (i + 1) = cntS S0 q i + (if (S0.2.1 392 i).toInt = q.toInt then 1 else 0) := rfl
    have ih2 := ih (i + 1) (by omega)
    rw [e0, hst] at ih2
    refine G_iload_n (pc := 4) dX9_howMany_4 rfl rfl ?_
    refine G_aload_n (pc := 5) dX9_howMany_5 rfl rfl ?_
    refine S_getI (pc := 6) dX9_howMany_6 fX9_27 rfl (by first | rfl | assumption) rfl ?_
    rw [hC.1]
    refine N_icmp_ge (pc := 9) (tgt := 34) dX9_howMany_9 (by decide) (by omega) (fun c9 => absurd c9 (by omega)) (fun c9 => ?_)
    refine G_aload_n (pc := 12) dX9_howMany_12 rfl rfl ?_
    refine S_getR (pc := 13) (b := 5) dX9_howMany_13 fX9_23 rfl rfl (by first | rfl | assumption) rfl rfl ?_
    refine G_iload_n (pc := 16) dX9_howMany_16 rfl rfl ?_
    refine N_aald (pc := 17) (t := 3) (n := 12) (b := 289 + 7 * i) dX9_howMany_17 (by first | rfl | assumption) (by first | rfl | assumption) (by decide) (by omega) rfl ?_
    refine S_getI (pc := 18) dX9_howMany_18 fX9_145 rfl (by first | rfl | assumption) rfl ?_
    rw [hc.2.2.1]
    refine G_iload_n (pc := 21) dX9_howMany_21 rfl rfl ?_
    refine T_icmp_ne (pc := 22) (tgt := 28) dX9_howMany_22 (by decide) (fun c22 => ?_) (fun c22 => ?_)
    · skip
      rw [if_neg c22] at ih2
      refine N_iinc (pc := 28) dX9_howMany_28 rfl (by decide) rfl ?_
      refine G_goto (pc := 31) (tgt := 4) dX9_howMany_31 (by decide) ?_
      exact ih2
    · skip
      rw [if_pos c22] at ih2
      refine N_iinc (pc := 25) dX9_howMany_25 rfl (by decide) rfl ?_
      refine N_iinc (pc := 28) dX9_howMany_28 rfl (by decide) rfl ?_
      refine G_goto (pc := 31) (tgt := 4) dX9_howMany_31 (by decide) ?_
      exact ih2
set_option maxRecDepth 100000 in
set_option maxHeartbeats 4000000 in
theorem sX9_howMany {S0 : ST} {q : Int32} (hb : MIb S0) (hth : thN S0 ≤ 12) (hC : CTh S0 S) (h : Q (some (aI (nI (cntS S0 q (thN S0))))) (mk S)) : CT sc mX9_howMany [aR 0, aI q] (mk S) Q := by
  refine S_of (by decide) rfl ?_
  show G sc mX9_howMany 0 [some (aR 0), some (aI q), none, none] [] (mk S) Q
  refine G_iconst (pc := 0) (v := nI 0) dX9_howMany_0 (by decide) ?_
  refine G_istore_n (pc := 1) dX9_howMany_1 rfl (by decide) rfl ?_
  refine G_iconst (pc := 2) (v := nI 0) dX9_howMany_2 (by decide) ?_
  refine G_istore_n (pc := 3) dX9_howMany_3 rfl (by decide) rfl ?_
  exact howMany_lp hb hth hC h (thN S0) 0 (by omega)
abbrev atX (k : Nat) (a j : Nat) : Prop := (a = 0 ∧ j = 3) ∨ (a = 289 + 7 * k + 1 ∧ j = 1)
abbrev atA (k : Nat) (a : Nat) : Prop := a = 289 + 7 * k + 1 + 1 ∨ a = 289 + 7 * k + 3
set_option maxRecDepth 100000 in
set_option maxHeartbeats 4000000 in
theorem sX9_addThing {a m k : Nat} {l : List Int32} (ha : RwK a m) (ha2 : a < 10) (hl : RwIs S a l) (hby : LBy l) (hlen : l.length ≤ 16) (hlm : l.length ≤ m) (hk : k ≤ 12) (hth : S.1 0 3 = nI k) (hfull : k = 12 → Q (some (aI (-3))) (mk S))
    (h : k < 12 → ∀ S', Fr (atX k) (atA k) S S' → S'.1 0 3 = nI (k + 1) → LnIs S' (289 + 7 * k) (fun j => l.getD j 0) l.length → PlIs S' (289 + 7 * k) (fun j => l.getD j 0) l.length → Q (some (aI (nI k))) (mk S')) : CT sc mX9_addThing [aR 0, aR a] (mk S) Q := by
  refine S_of (by decide) rfl ?_
  show G sc mX9_addThing 0 [some (aR 0), some (aR a), none] [] (mk S) Q
  by_cases hk2 : k = 12
  · skip
    refine G_aload_n (pc := 0) dX9_addThing_0 rfl rfl ?_
    refine S_getI (pc := 1) dX9_addThing_1 fX9_27 rfl (by first | rfl | assumption) rfl ?_
    rw [hth]
    refine G_bipush (pc := 4) (v := nI 12) dX9_addThing_4 (by decide) ?_
    refine N_icmp_lt (pc := 6) (tgt := 12) dX9_addThing_6 (by decide) (by omega) (fun c6 => absurd c6 (by omega)) (fun c6 => ?_)
    refine G_bipush (pc := 9) (v := (-3)) dX9_addThing_9 (by decide) ?_
    refine S_iret (pc := 11) dX9_addThing_11 rfl ?_
    exact hfull hk2
  · have hK := ThK_t k (by omega)
    obtain ⟨k0, k1, k2, k3, k4, k5, k6⟩ := id hK
    obtain ⟨r1, r2, r3⟩ := id ha
    have hRl : RwK (289 + 7 * k + 1) 16 := ⟨k1, k2, rfl⟩
    refine G_aload_n (pc := 0) dX9_addThing_0 rfl rfl ?_
    refine S_getI (pc := 1) dX9_addThing_1 fX9_27 rfl (by first | rfl | assumption) rfl ?_
    rw [hth]
    refine G_bipush (pc := 4) (v := nI 12) dX9_addThing_4 (by decide) ?_
    refine N_icmp_lt (pc := 6) (tgt := 12) dX9_addThing_6 (by decide) (by omega) (fun c6 => ?_) (fun c6 => absurd c6 (by omega))
    refine G_aload_n (pc := 12) dX9_addThing_12 rfl rfl ?_
    refine S_getR (pc := 13) (b := 5) dX9_addThing_13 fX9_23 rfl rfl (by first | rfl | assumption) rfl rfl ?_
    refine G_aload_n (pc := 16) dX9_addThing_16 rfl rfl ?_
    refine S_getI (pc := 17) dX9_addThing_17 fX9_27 rfl (by first | rfl | assumption) rfl ?_
    rw [hth]
    refine N_aald (pc := 20) (t := 3) (n := 12) (b := 289 + 7 * k) dX9_addThing_20 (by first | rfl | assumption) (by first | rfl | assumption) (by decide) (by omega) rfl ?_
    refine G_astore_n (pc := 21) dX9_addThing_21 rfl (by decide) rfl ?_
    refine G_aload_n (pc := 22) dX9_addThing_22 rfl rfl ?_
    refine S_getR (pc := 23) (b := 289 + 7 * k + 1) dX9_addThing_23 fX9_125 rfl rfl (by first | rfl | assumption) rfl rfl ?_
    refine G_aload_n (pc := 26) dX9_addThing_26 rfl rfl ?_
    refine S_callV (av := [_]) (pc := 27) (z := mX4_copyOf) (ci := 3) dX9_addThing_27 zX4_copyOf lX9_addThing_239 rfl (by first | rfl | assumption) rfl rfl (sX4_copyOf hRl ha (by omega) hlen hlm hby hl (fun S1 w1 w2 => ⟨_, rfl, ?_⟩))
    refine G_aload_n (pc := 30) dX9_addThing_30 rfl rfl ?_
    refine S_callV (av := []) (pc := 31) (z := mX8_findPlaces) (ci := 7) dX9_addThing_31 zX8_findPlaces lX9_addThing_243 rfl (by first | rfl | assumption) rfl rfl (sX8_findPlaces hK w2 hlen (fun S2 x1 x2 => ⟨_, rfl, ?_⟩))
    refine G_aload_n (pc := 34) dX9_addThing_34 rfl rfl ?_
    refine G_dup (pc := 35) dX9_addThing_35 rfl ?_
    refine S_getI (pc := 36) dX9_addThing_36 fX9_27 rfl (by first | rfl | assumption) rfl ?_
    rw [show S2.1 0 3 = nI k from (x1.1 0 3 (by simp)).trans ((w1.1 0 3 (by show ¬ (_ ∧ _); omega)).trans hth)]
    refine G_iconst (pc := 39) (v := nI 1) dX9_addThing_39 (by decide) ?_
    refine N_iadd (pc := 40) dX9_addThing_40 ?_
    refine S_putI (pc := 41) dX9_addThing_41 fX9_27 (by decide) rfl (by first | rfl | assumption) rfl ?_
    refine G_aload_n (pc := 44) dX9_addThing_44 rfl rfl ?_
    refine S_getI (pc := 45) dX9_addThing_45 fX9_27 rfl (by first | rfl | assumption) rfl ?_
    rw [show (upX S2 0 3 (nI (k + 1))).1 0 3 = nI (k + 1) from upX_s]
    refine G_iconst (pc := 48) (v := nI 1) dX9_addThing_48 (by decide) ?_
    refine N_isub (pc := 49) dX9_addThing_49 (by omega) ?_
    rw [show k + 1 - 1 = k from rfl]
    refine S_iret (pc := 50) dX9_addThing_50 rfl ?_
    have g1 : Fr (atX k) (atA k) S S1 := w1.mono (fun a j q => Or.inr q) (fun a q => Or.inl q)
    have g2 : Fr (atX k) (atA k) S1 S2 := x1.mono (fun a j q => q.elim) (fun a q => Or.inr q)
    have g3 : Fr (atX k) (atA k) S2 (upX S2 0 3 (nI (k + 1))) := Fr.upX (Or.inl ⟨rfl, rfl⟩)
    have w3 : LnIs S1 (289 + 7 * k) (fun j => l.getD j 0) l.length := w2
    have w4 := w3.fr x1 (by simp) (by show ¬ _ = _; omega)
    exact h (by omega) _ (g1.tr (g2.tr g3)) upX_s ⟨(upX_n (by omega)).trans w4.1, w4.2⟩ x2
/-- the program kept next -/
abbrev kpX (k : Nat) (a j : Nat) : Prop := (a = 0 ∧ j = 11) ∨ (a = 373 + 2 * k ∧ j = 1)
abbrev kpA (k : Nat) (a : Nat) : Prop := a = 373 + 2 * k + 1
theorem PgK_k : ∀ k, k < 4 → PgK (373 + 2 * k) := by unfold PgK; decide
set_option maxRecDepth 100000 in
set_option maxHeartbeats 4000000 in
theorem sX9_keepProgram {a k : Nat} {ps : List Nat} (ha : PgK a) (ha2 : a < 373) (hp : PgIs S a ps) (hk : k ≤ 4) (hn : S.1 0 11 = nI k) (hfull : k = 4 → Q (some (aI (-3))) (mk S))
    (h : k < 4 → ∀ S', Fr (kpX k) (kpA k) S S' → S'.1 0 11 = nI (k + 1) → PgIs S' (373 + 2 * k) ps → Q (some (aI (nI k))) (mk S')) : CT sc mX9_keepProgram [aR 0, aR a] (mk S) Q := by
  refine S_of (by decide) rfl ?_
  show G sc mX9_keepProgram 0 [some (aR 0), some (aR a)] [] (mk S) Q
  by_cases hk2 : k = 4
  · skip
    refine G_aload_n (pc := 0) dX9_keepProgram_0 rfl rfl ?_
    refine S_getI (pc := 1) dX9_keepProgram_1 fX9_65 rfl (by first | rfl | assumption) rfl ?_
    rw [hn]
    refine G_iconst (pc := 4) (v := nI 4) dX9_keepProgram_4 (by decide) ?_
    refine N_icmp_lt (pc := 5) (tgt := 11) dX9_keepProgram_5 (by decide) (by omega) (fun c5 => absurd c5 (by omega)) (fun c5 => ?_)
    refine G_bipush (pc := 8) (v := (-3)) dX9_keepProgram_8 (by decide) ?_
    refine S_iret (pc := 10) dX9_keepProgram_10 rfl ?_
    exact hfull hk2
  · have hK := PgK_k k (by omega)
    obtain ⟨k1, k2⟩ := id hK
    obtain ⟨r1, r2⟩ := id ha
    refine G_aload_n (pc := 0) dX9_keepProgram_0 rfl rfl ?_
    refine S_getI (pc := 1) dX9_keepProgram_1 fX9_65 rfl (by first | rfl | assumption) rfl ?_
    rw [hn]
    refine G_iconst (pc := 4) (v := nI 4) dX9_keepProgram_4 (by decide) ?_
    refine N_icmp_lt (pc := 5) (tgt := 11) dX9_keepProgram_5 (by decide) (by omega) (fun c5 => ?_) (fun c5 => absurd c5 (by omega))
    refine G_aload_n (pc := 11) dX9_keepProgram_11 rfl rfl ?_
    refine S_getR (pc := 12) (b := 282) dX9_keepProgram_12 fX9_61 rfl rfl (by first | rfl | assumption) rfl rfl ?_
    refine G_aload_n (pc := 15) dX9_keepProgram_15 rfl rfl ?_
    refine S_getI (pc := 16) dX9_keepProgram_16 fX9_65 rfl (by first | rfl | assumption) rfl ?_
    rw [hn]
    refine N_aald (pc := 19) (t := 4) (n := 4) (b := 373 + 2 * k) dX9_keepProgram_19 (by first | rfl | assumption) (by first | rfl | assumption) (by decide) (by omega) rfl ?_
    refine G_aload_n (pc := 20) dX9_keepProgram_20 rfl rfl ?_
    refine S_callV (av := [_]) (pc := 21) (z := mX3_copyOf) (ci := 2) dX9_keepProgram_21 zX3_copyOf lX9_keepProgram_271 rfl (by first | rfl | assumption) rfl rfl (sX3_copyOf hK ha (Or.inr (by omega)) hp (fun S1 w1 w2 => ⟨_, rfl, ?_⟩))
    refine G_aload_n (pc := 24) dX9_keepProgram_24 rfl rfl ?_
    refine G_dup (pc := 25) dX9_keepProgram_25 rfl ?_
    refine S_getI (pc := 26) dX9_keepProgram_26 fX9_65 rfl (by first | rfl | assumption) rfl ?_
    rw [show S1.1 0 11 = nI k from (w1.1 0 11 (by show ¬ (_ ∧ _); omega)).trans hn]
    refine G_iconst (pc := 29) (v := nI 1) dX9_keepProgram_29 (by decide) ?_
    refine N_iadd (pc := 30) dX9_keepProgram_30 ?_
    refine S_putI (pc := 31) dX9_keepProgram_31 fX9_65 (by decide) rfl (by first | rfl | assumption) rfl ?_
    refine G_aload_n (pc := 34) dX9_keepProgram_34 rfl rfl ?_
    refine S_getI (pc := 35) dX9_keepProgram_35 fX9_65 rfl (by first | rfl | assumption) rfl ?_
    rw [show (upX S1 0 11 (nI (k + 1))).1 0 11 = nI (k + 1) from upX_s]
    refine G_iconst (pc := 38) (v := nI 1) dX9_keepProgram_38 (by decide) ?_
    refine N_isub (pc := 39) dX9_keepProgram_39 (by omega) ?_
    rw [show k + 1 - 1 = k from rfl]
    refine S_iret (pc := 40) dX9_keepProgram_40 rfl ?_
    have g1 : Fr (kpX k) (kpA k) S S1 := w1.mono (fun a j q => Or.inr q) (fun a q => q)
    have g3 : Fr (kpX k) (kpA k) S1 (upX S1 0 11 (nI (k + 1))) := Fr.upX (Or.inl ⟨rfl, rfl⟩)
    exact h (by omega) _ (g1.tr g3) upX_s ⟨(upX_n (by omega)).trans w2.1, w2.2⟩
end C20
