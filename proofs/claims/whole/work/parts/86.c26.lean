/-! the class: differs, settle, otherwise, keep -/
theorem eF_len {S : ST} {t : Nat} {N : List (List Nat)} (hok : PsOk N) (hn : szN S t ≤ 16) : ∀ p, p < N.length → (eF S t N p).length ≤ 35 := fun p hp => by
  have hm : N.getD p [] ∈ N := by
    rw [List.getD_eq_getElem?_getD, List.getElem?_eq_getElem hp]
    exact List.getElem_mem _
  unfold eF
  rcases e : runP (lnB S t) (szN S t) (N.getD p []) with _ | q
  · simp
  · exact runP_len35 (hok _ hm) hn e
section C26
variable {sc : SC} {S : ST} {Q : Option AV → HM → Prop}
set_option maxRecDepth 100000 in
set_option maxHeartbeats 4000000 in
theorem sX9_differs {S0 : ST} {t : Int32} (hi : MI0 S0) (hC : CTh S0 S) (hF : CIf S0 S) (h : ∀ S', FrN quX quA S S' → S'.1 0 6 = S.1 0 6 → CIf S0 S' → Q (some (aI (sp_differs S0 t))) (mk S')) : CT sc mX9_differs [aR 0, aI t] (mk S) Q := by
  refine S_of (by decide) rfl ?_
  show G sc mX9_differs 0 [some (aR 0), some (aI t), none] [] (mk S) Q
  obtain ⟨ha, hb, he, h4⟩ := id hi
  have hth := thB ha
  unfold sp_differs at h
  rcases hT : isTh (thN S0) t with _ | _
  · have h := h S FrN.rf rfl hF
    rw [if_neg (by simp [hT])] at h
    refine G_aload_n (pc := 0) dX9_differs_0 rfl rfl ?_
    refine G_iload_n (pc := 1) dX9_differs_1 rfl rfl ?_
    refine S_callV (av := [_]) (pc := 2) (z := mX9_isThing) (ci := 8) dX9_differs_2 zX9_isThing lX9_differs_122 rfl (by first | rfl | assumption) rfl rfl (sX9_isThing hC.1 (by omega) ⟨_, rfl, ?_⟩)
    rw [hT]
    refine B_if_ne (pc := 5) (tgt := 10) dX9_differs_5 (by decide) (fun c5 => absurd c5 (by decide)) (fun c5 => ?_)
    refine G_iconst (pc := 8) (v := (-1)) dX9_differs_8 (by decide) ?_
    refine S_iret (pc := 9) dX9_differs_9 rfl ?_
    exact h
  · obtain ⟨u, rfl, hu, hu2⟩ := isTh_k hT (by omega)
    obtain ⟨y1, y2, y3, y4⟩ := ha.2 u hu
    rw [if_pos hT, hu2] at h
    refine G_aload_n (pc := 0) dX9_differs_0 rfl rfl ?_
    refine G_iload_n (pc := 1) dX9_differs_1 rfl rfl ?_
    refine S_callV (av := [_]) (pc := 2) (z := mX9_isThing) (ci := 8) dX9_differs_2 zX9_isThing lX9_differs_122 rfl (by first | rfl | assumption) rfl rfl (sX9_isThing hC.1 (by omega) ⟨_, rfl, ?_⟩)
    rw [hT]
    refine B_if_ne (pc := 5) (tgt := 10) dX9_differs_5 (by decide) (fun c5 => ?_) (fun c5 => absurd c5 (by decide))
    refine G_aload_n (pc := 10) dX9_differs_10 rfl rfl ?_
    refine S_callV (av := []) (pc := 11) (z := mX9_fitRefusal) (ci := 8) dX9_differs_11 zX9_fitRefusal lX9_differs_156 rfl (by first | rfl | assumption) rfl rfl (fitR hi hC hF (fun q => ⟨_, rfl, ?_⟩) (fun q q2 S1 w1 w2 => ⟨_, rfl, ?_⟩) (fun q q2 S1 w1 w2 w3 => ⟨_, rfl, ?_⟩))
    · skip
      have h := h S FrN.rf rfl hF
      rw [lackS_2 q] at h
      refine G_istore_n (pc := 14) dX9_differs_14 rfl (by decide) rfl ?_
      refine G_iload_n (pc := 15) dX9_differs_15 rfl rfl ?_
      refine T_if_eq (pc := 16) (tgt := 21) dX9_differs_16 (by decide) (fun c16 => absurd c16 (by decide)) (fun c16 => ?_)
      refine G_iload_n (pc := 19) dX9_differs_19 rfl rfl ?_
      refine S_iret (pc := 20) dX9_differs_20 rfl ?_
      exact h
    · skip
      have h := h S1 (qu_fq w1) (w1.1 0 6 (by omega)) w2
      rw [lackS_4 q q2] at h
      refine G_istore_n (pc := 14) dX9_differs_14 rfl (by decide) rfl ?_
      refine G_iload_n (pc := 15) dX9_differs_15 rfl rfl ?_
      refine T_if_eq (pc := 16) (tgt := 21) dX9_differs_16 (by decide) (fun c16 => absurd c16 (by decide)) (fun c16 => ?_)
      refine G_iload_n (pc := 19) dX9_differs_19 rfl rfl ?_
      refine S_iret (pc := 20) dX9_differs_20 rfl ?_
      exact h
    have hc := ((hC.fq w1).2 u (by omega)).1 hu
    have hok := neA_ok q (TsOk_sh ha hb h4) (EnBy_sh hb)
    refine G_istore_n (pc := 14) dX9_differs_14 rfl (by decide) rfl ?_
    refine G_iload_n (pc := 15) dX9_differs_15 rfl rfl ?_
    refine T_if_eq (pc := 16) (tgt := 21) dX9_differs_16 (by decide) (fun c16 => ?_) (fun c16 => absurd c16 (by decide))
    refine G_aload_n (pc := 21) dX9_differs_21 rfl rfl ?_
    refine S_getR (pc := 22) (b := 150) dX9_differs_22 fX9_48 rfl rfl (by first | rfl | assumption) rfl rfl ?_
    refine G_aload_n (pc := 25) dX9_differs_25 rfl rfl ?_
    refine S_getR (pc := 26) (b := 6) dX9_differs_26 fX9_34 rfl rfl (by first | rfl | assumption) rfl rfl ?_
    refine G_aload_n (pc := 29) dX9_differs_29 rfl rfl ?_
    refine S_getR (pc := 30) (b := 5) dX9_differs_30 fX9_23 rfl rfl (by first | rfl | assumption) rfl rfl ?_
    refine G_iload_n (pc := 33) dX9_differs_33 rfl rfl ?_
    refine N_aald (pc := 34) (t := 3) (n := 12) (b := 289 + 7 * u) dX9_differs_34 (by first | rfl | assumption) (by first | rfl | assumption) (by decide) (by omega) rfl ?_
    refine S_callV (av := [_, _]) (pc := 35) (z := mX6_take) (ci := 5) dX9_differs_35 zX6_take lX9_differs_171 rfl (by first | rfl | assumption) rfl rfl (sX6_take (f := eF S0 u (neA S0 (shL S0 0))) (by omega) y3 y4 hok (neA_b q (EnBy_sh hb)) (fun _ _ => rfl) (eF_len hok y3) w3.nr hc.1 hc.2.1 (fun S2 x1 x2 => ⟨_, rfl, ?_⟩))
    refine G_aload_n (pc := 38) dX9_differs_38 rfl rfl ?_
    refine S_getR (pc := 39) (b := 150) dX9_differs_39 fX9_48 rfl rfl (by first | rfl | assumption) rfl rfl ?_
    refine S_getI (pc := 42) dX9_differs_42 fX9_175 rfl (by first | rfl | assumption) rfl ?_
    rw [x2.1]
    refine S_iret (pc := 45) dX9_differs_45 rfl ?_
    have h := h S2 ((qu_fq w1).tr (qu_ta x1)) ((x1.1 0 6 (by omega)).trans (w1.1 0 6 (by omega))) (w2.ta hth x1)
    rw [lackS_0 q q2, ← dis_un] at h
    exact h
set_option maxRecDepth 100000 in
set_option maxHeartbeats 4000000 in
theorem settleC_lp {S0 : ST} {v : Int32} (hi : MI0 S0) (q : shL S0 0 ≠ []) :
    ∀ (d t : Nat) (b : Option Nat) (l : Nat) (S : ST) (o5 : Option AV), t + d = thN S0 → CTh S0 S → CIf S0 S → FtZ S0 S → (∀ x, b = some x → x < 12) → l ≤ 64 → (∀ S', FrN quX quA S S' → S'.1 0 6 = S.1 0 6 → CIf S0 S' → Q (some (aI (oI (seG S0 (neA S0 (shL S0 0)) d t b l)))) (mk S')) →
      G sc mX9_settle 19 [some (aR 0), some (aI v), some (aI (oI b)), some (aI (nI l)), some (aI (nI t)), o5] [] (mk S) Q := by
  obtain ⟨ha, hb, he, h4⟩ := id hi
  have hth := thB ha
  have hok := neA_ok q (TsOk_sh ha hb h4) (EnBy_sh hb)
  have hN64 : (neA S0 (shL S0 0)).length ≤ 64 := tk_le _ _
  intro d
  induction d with
  | zero =>
    intro t b l S o5 ht hC hF hZ hbx hl h
    refine G_iload (pc := 19) dX9_settle_19 rfl ?_
    refine G_aload_n (pc := 21) dX9_settle_21 rfl rfl ?_
    refine S_getI (pc := 22) dX9_settle_22 fX9_27 rfl (by first | rfl | assumption) rfl ?_
    rw [hC.1]
    refine N_icmp_ge (pc := 25) (tgt := 96) dX9_settle_25 (by decide) (by omega) (fun c25 => ?_) (fun c25 => absurd c25 (by omega))
    refine G_iload_n (pc := 96) dX9_settle_96 rfl rfl ?_
    refine S_iret (pc := 97) dX9_settle_97 rfl ?_
    exact h S FrN.rf rfl hF
  | succ d ih =>
    intro t b l S o5 ht hC hF hZ hbx hl h
    have hc := (hC.2 t (by omega)).1 (by omega)
    obtain ⟨k0, k1, k2, k3, k4, k5, k6⟩ := ThK_t t (by omega)
    obtain ⟨y1, y2, y3, y4⟩ := ha.2 t (by omega)
    obtain ⟨⟨b1, b2⟩, -⟩ := hb t (by omega)
    have e0 : seG S0 (neA S0 (shL S0 0)) (d + 1) t b l = if stN S0 t = 1 then seG S0 (neA S0 (shL S0 0)) d (t + 1) b l else if b = none ∨ grE (eF S0 t (neA S0 (shL S0 0))) (neA S0 (shL S0 0)).length (neA S0 (shL S0 0)).length < l then seG S0 (neA S0 (shL S0 0)) d (t + 1) (some t) (grE (eF S0 t (neA S0 (shL S0 0))) (neA S0 (shL S0 0)).length (neA S0 (shL S0 0)).length) else seG S0 (neA S0 (shL S0 0)) d (t + 1) b l := rfl
    rw [e0] at h
    by_cases hs : stN S0 t = 1
    · rw [if_pos hs] at h
      refine G_iload (pc := 19) dX9_settle_19 rfl ?_
      refine G_aload_n (pc := 21) dX9_settle_21 rfl rfl ?_
      refine S_getI (pc := 22) dX9_settle_22 fX9_27 rfl (by first | rfl | assumption) rfl ?_
      rw [hC.1]
      refine N_icmp_ge (pc := 25) (tgt := 96) dX9_settle_25 (by decide) (by omega) (fun c25 => absurd c25 (by omega)) (fun c25 => ?_)
      refine G_aload_n (pc := 28) dX9_settle_28 rfl rfl ?_
      refine S_getR (pc := 29) (b := 5) dX9_settle_29 fX9_23 rfl rfl (by first | rfl | assumption) rfl rfl ?_
      refine G_iload (pc := 32) dX9_settle_32 rfl ?_
      refine N_aald (pc := 34) (t := 3) (n := 12) (b := 289 + 7 * t) dX9_settle_34 (by first | rfl | assumption) (by first | rfl | assumption) (by decide) (by omega) rfl ?_
      refine S_getI (pc := 35) dX9_settle_35 fX9_145 rfl (by first | rfl | assumption) rfl ?_
      rw [hc.2.2.1]
      refine G_iconst (pc := 38) (v := nI 1) dX9_settle_38 (by decide) ?_
      refine N_icmp_ne (pc := 39) (tgt := 45) dX9_settle_39 (by decide) (by omega) (fun c39 => absurd c39 (by omega)) (fun c39 => ?_)
      refine G_goto (pc := 42) (tgt := 90) dX9_settle_42 (by decide) ?_
      refine N_iinc (pc := 90) dX9_settle_90 rfl (by decide) rfl ?_
      refine G_goto (pc := 93) (tgt := 19) dX9_settle_93 (by decide) ?_
      exact ih (t + 1) b l S _ (by omega) hC hF hZ hbx hl h
    · rw [if_neg hs] at h
      have hgr : grE (eF S0 t (neA S0 (shL S0 0))) (neA S0 (shL S0 0)).length (neA S0 (shL S0 0)).length ≤ 64 := grE_up _ (fun p _ => Nat.le_trans (alE_le _ p _) hN64)
      have hm : ∀ k, k < (disE (eF S0 t (neA S0 (shL S0 0))) (neA S0 (shL S0 0)).length).length → cnE (eF S0 t (neA S0 (shL S0 0))) ((disE (eF S0 t (neA S0 (shL S0 0))) (neA S0 (shL S0 0)).length).getD k []) (neA S0 (shL S0 0)).length ≤ 64 := fun k _ => Nat.le_trans (cnE_le _) hN64
      have hdl := dis_le (f := eF S0 t (neA S0 (shL S0 0))) (neA S0 (shL S0 0)).length
      have hmx := mx_gr (f := eF S0 t (neA S0 (shL S0 0))) (n := (neA S0 (shL S0 0)).length)
      refine G_iload (pc := 19) dX9_settle_19 rfl ?_
      refine G_aload_n (pc := 21) dX9_settle_21 rfl rfl ?_
      refine S_getI (pc := 22) dX9_settle_22 fX9_27 rfl (by first | rfl | assumption) rfl ?_
      rw [hC.1]
      refine N_icmp_ge (pc := 25) (tgt := 96) dX9_settle_25 (by decide) (by omega) (fun c25 => absurd c25 (by omega)) (fun c25 => ?_)
      refine G_aload_n (pc := 28) dX9_settle_28 rfl rfl ?_
      refine S_getR (pc := 29) (b := 5) dX9_settle_29 fX9_23 rfl rfl (by first | rfl | assumption) rfl rfl ?_
      refine G_iload (pc := 32) dX9_settle_32 rfl ?_
      refine N_aald (pc := 34) (t := 3) (n := 12) (b := 289 + 7 * t) dX9_settle_34 (by first | rfl | assumption) (by first | rfl | assumption) (by decide) (by omega) rfl ?_
      refine S_getI (pc := 35) dX9_settle_35 fX9_145 rfl (by first | rfl | assumption) rfl ?_
      rw [hc.2.2.1]
      refine G_iconst (pc := 38) (v := nI 1) dX9_settle_38 (by decide) ?_
      refine N_icmp_ne (pc := 39) (tgt := 45) dX9_settle_39 (by decide) (by omega) (fun c39 => ?_) (fun c39 => absurd c39 (by omega))
      refine G_aload_n (pc := 45) dX9_settle_45 rfl rfl ?_
      refine S_getR (pc := 46) (b := 150) dX9_settle_46 fX9_48 rfl rfl (by first | rfl | assumption) rfl rfl ?_
      refine G_aload_n (pc := 49) dX9_settle_49 rfl rfl ?_
      refine S_getR (pc := 50) (b := 6) dX9_settle_50 fX9_34 rfl rfl (by first | rfl | assumption) rfl rfl ?_
      refine G_aload_n (pc := 53) dX9_settle_53 rfl rfl ?_
      refine S_getR (pc := 54) (b := 5) dX9_settle_54 fX9_23 rfl rfl (by first | rfl | assumption) rfl rfl ?_
      refine G_iload (pc := 57) dX9_settle_57 rfl ?_
      refine N_aald (pc := 59) (t := 3) (n := 12) (b := 289 + 7 * t) dX9_settle_59 (by first | rfl | assumption) (by first | rfl | assumption) (by decide) (by omega) rfl ?_
      refine S_callV (av := [_, _]) (pc := 60) (z := mX6_take) (ci := 5) dX9_settle_60 zX6_take lX9_settle_171 rfl (by first | rfl | assumption) rfl rfl (sX6_take (f := eF S0 t (neA S0 (shL S0 0))) (by omega) y3 y4 hok (neA_b q (EnBy_sh hb)) (fun _ _ => rfl) (eF_len hok y3) hZ.nr hc.1 hc.2.1 (fun S2 x1 x2 => ⟨_, rfl, ?_⟩))
      refine G_aload_n (pc := 63) dX9_settle_63 rfl rfl ?_
      refine S_getR (pc := 64) (b := 150) dX9_settle_64 fX9_48 rfl rfl (by first | rfl | assumption) rfl rfl ?_
      refine S_callV (av := []) (pc := 67) (z := mX6_greatest) (ci := 5) dX9_settle_67 zX6_greatest lX9_settle_178 rfl (by first | rfl | assumption) rfl rfl (sX6_greatest x2 (by omega) hm ⟨_, rfl, ?_⟩)
      rw [hmx]
      refine G_istore (pc := 70) dX9_settle_70 (by decide) rfl ?_
      have ih2 := fun b l => ih (t + 1) b l S2 (some (aI (nI (grE (eF S0 t (neA S0 (shL S0 0))) (neA S0 (shL S0 0)).length (neA S0 (shL S0 0)).length)))) (by omega) (hC.qu (qu_ta x1)) (hF.ta hth x1) (hZ.fx hth x1 (fun a j q => by omega) (fun a q => by omega))
      have h2 : ∀ v, (∀ S', FrN quX quA S S' → S'.1 0 6 = S.1 0 6 → CIf S0 S' → Q (some (aI v)) (mk S')) → ∀ S', FrN quX quA S2 S' → S'.1 0 6 = S2.1 0 6 → CIf S0 S' → Q (some (aI v)) (mk S') := fun v h S' f g => h S' ((qu_ta x1).tr f) (g.trans (x1.1 0 6 (by omega)))
      rcases b with _ | x
      · rw [if_pos (Or.inl rfl)] at h
        have ih3 := ih2 (some t) _ (fun x hx => by cases hx; omega) hgr (h2 _ h)
        refine G_iload_n (pc := 72) dX9_settle_72 rfl rfl ?_
        refine G_bipush (pc := 73) (v := (-4)) dX9_settle_73 (by decide) ?_
        refine T_icmp_eq (pc := 75) (tgt := 84) dX9_settle_75 (by decide) (fun c75 => ?_) (fun c75 => absurd c75 (by decide))
        refine G_iload (pc := 84) dX9_settle_84 rfl ?_
        refine G_istore_n (pc := 86) dX9_settle_86 rfl (by decide) rfl ?_
        refine G_iload (pc := 87) dX9_settle_87 rfl ?_
        refine G_istore_n (pc := 89) dX9_settle_89 rfl (by decide) rfl ?_
        refine N_iinc (pc := 90) dX9_settle_90 rfl (by decide) rfl ?_
        refine G_goto (pc := 93) (tgt := 19) dX9_settle_93 (by decide) ?_
        exact ih3
      · have hx := hbx x rfl
        rw [oI_s]
        refine G_iload_n (pc := 72) dX9_settle_72 rfl rfl ?_
        refine G_bipush (pc := 73) (v := (-4)) dX9_settle_73 (by decide) ?_
        refine T_icmp_eq (pc := 75) (tgt := 84) dX9_settle_75 (by decide) (fun c75 => absurd c75 (by rw [nIt (by omega)]; show ¬ (x : Int) = -4; omega)) (fun c75 => ?_)
        refine G_iload (pc := 78) dX9_settle_78 rfl ?_
        refine G_iload_n (pc := 80) dX9_settle_80 rfl rfl ?_
        refine N_icmp_ge (pc := 81) (tgt := 90) dX9_settle_81 (by decide) (by omega) (fun c81 => ?_) (fun c81 => ?_)
        · skip
          rw [if_neg (by simp; omega)] at h
          have ih3 := ih2 (some x) l hbx hl (h2 _ h)
          refine N_iinc (pc := 90) dX9_settle_90 rfl (by decide) rfl ?_
          refine G_goto (pc := 93) (tgt := 19) dX9_settle_93 (by decide) ?_
          exact ih3
        · skip
          rw [if_pos (Or.inr (by omega))] at h
          have ih3 := ih2 (some t) _ (fun x hx => by cases hx; omega) hgr (h2 _ h)
          refine G_iload (pc := 84) dX9_settle_84 rfl ?_
          refine G_istore_n (pc := 86) dX9_settle_86 rfl (by decide) rfl ?_
          refine G_iload (pc := 87) dX9_settle_87 rfl ?_
          refine G_istore_n (pc := 89) dX9_settle_89 rfl (by decide) rfl ?_
          refine N_iinc (pc := 90) dX9_settle_90 rfl (by decide) rfl ?_
          refine G_goto (pc := 93) (tgt := 19) dX9_settle_93 (by decide) ?_
          exact ih3
set_option maxRecDepth 100000 in
set_option maxHeartbeats 4000000 in
theorem sX9_settle {S0 : ST} (hi : MI0 S0) (hC : CTh S0 S) (hF : CIf S0 S) (h : ∀ S', FrN quX quA S S' → S'.1 0 6 = S.1 0 6 → CIf S0 S' → Q (some (aI (sp_settle S0))) (mk S')) : CT sc mX9_settle [aR 0] (mk S) Q := by
  refine S_of (by decide) rfl ?_
  show G sc mX9_settle 0 [some (aR 0), none, none, none, none, none] [] (mk S) Q
  unfold sp_settle at h
  refine G_aload_n (pc := 0) dX9_settle_0 rfl rfl ?_
  refine S_callV (av := []) (pc := 1) (z := mX9_fitRefusal) (ci := 8) dX9_settle_1 zX9_fitRefusal lX9_settle_156 rfl (by first | rfl | assumption) rfl rfl (fitR hi hC hF (fun q => ⟨_, rfl, ?_⟩) (fun q q2 S1 w1 w2 => ⟨_, rfl, ?_⟩) (fun q q2 S1 w1 w2 w3 => ⟨_, rfl, ?_⟩))
  · skip
    have h := h S FrN.rf rfl hF
    rw [lackS_2 q] at h
    refine G_istore_n (pc := 4) dX9_settle_4 rfl (by decide) rfl ?_
    refine G_iload_n (pc := 5) dX9_settle_5 rfl rfl ?_
    refine T_if_eq (pc := 6) (tgt := 11) dX9_settle_6 (by decide) (fun c6 => absurd c6 (by decide)) (fun c6 => ?_)
    refine G_iload_n (pc := 9) dX9_settle_9 rfl rfl ?_
    refine S_iret (pc := 10) dX9_settle_10 rfl ?_
    exact h
  · skip
    have h := h S1 (qu_fq w1) (w1.1 0 6 (by omega)) w2
    rw [lackS_4 q q2] at h
    refine G_istore_n (pc := 4) dX9_settle_4 rfl (by decide) rfl ?_
    refine G_iload_n (pc := 5) dX9_settle_5 rfl rfl ?_
    refine T_if_eq (pc := 6) (tgt := 11) dX9_settle_6 (by decide) (fun c6 => absurd c6 (by decide)) (fun c6 => ?_)
    refine G_iload_n (pc := 9) dX9_settle_9 rfl rfl ?_
    refine S_iret (pc := 10) dX9_settle_10 rfl ?_
    exact h
  rw [lackS_0 q q2] at h
  refine G_istore_n (pc := 4) dX9_settle_4 rfl (by decide) rfl ?_
  refine G_iload_n (pc := 5) dX9_settle_5 rfl rfl ?_
  refine T_if_eq (pc := 6) (tgt := 11) dX9_settle_6 (by decide) (fun c6 => ?_) (fun c6 => absurd c6 (by decide))
  refine G_bipush (pc := 11) (v := (-4)) dX9_settle_11 (by decide) ?_
  refine G_istore_n (pc := 13) dX9_settle_13 rfl (by decide) rfl ?_
  refine G_iconst (pc := 14) (v := nI 0) dX9_settle_14 (by decide) ?_
  refine G_istore_n (pc := 15) dX9_settle_15 rfl (by decide) rfl ?_
  refine G_iconst (pc := 16) (v := nI 0) dX9_settle_16 (by decide) ?_
  refine G_istore (pc := 17) dX9_settle_17 (by decide) rfl ?_
  exact settleC_lp hi q (thN S0) 0 none 0 S1 _ (by omega) (hC.fq w1) w2 w3 (fun x hx => by cases hx) (by omega) (fun S' f g => h S' ((qu_fq w1).tr f) (g.trans (w1.1 0 6 (by omega))))
set_option maxRecDepth 100000 in
set_option maxHeartbeats 4000000 in
theorem otherC_lp {S0 : ST} {v : Int32} (hi : MI0 S0) (q : shL S0 0 ≠ []) (q2 : neA S0 (shL S0 0) ≠ []) :
    ∀ (d t : Nat) (S : ST) (o4 o5 : Option AV), t + d = thN S0 → CTh S0 S → CIf S0 S → FtZ S0 S → (∀ S', FrN quX quA S S' → S'.1 0 6 = S.1 0 6 → CIf S0 S' → Q (some (aI (nI (otG S0 (nr0 S0) (thN S0))))) (mk S')) →
      G sc mX9_otherwise 15 [some (aR 0), some (aI v), some (aI (nI (otG S0 (nr0 S0) t))), some (aI (nI t)), o4, o5] [] (mk S) Q := by
  obtain ⟨ha, hb, he, h4⟩ := id hi
  have hth := thB ha
  have hok := nr0_ok hi q q2
  intro d
  induction d with
  | zero =>
    intro t S o4 o5 ht hC hF hZ h
    have e : t = thN S0 := by omega
    subst e
    refine G_iload_n (pc := 15) dX9_otherwise_15 rfl rfl ?_
    refine G_aload_n (pc := 16) dX9_otherwise_16 rfl rfl ?_
    refine S_getI (pc := 17) dX9_otherwise_17 fX9_27 rfl (by first | rfl | assumption) rfl ?_
    rw [hC.1]
    refine N_icmp_ge (pc := 20) (tgt := 95) dX9_otherwise_20 (by decide) (by omega) (fun c20 => ?_) (fun c20 => absurd c20 (by omega))
    refine G_iload_n (pc := 95) dX9_otherwise_95 rfl rfl ?_
    refine S_iret (pc := 96) dX9_otherwise_96 rfl ?_
    exact h S FrN.rf rfl hF
  | succ d ih =>
    intro t S o4 o5 ht hC hF hZ h
    have hc := (hC.2 t (by omega)).1 (by omega)
    have hKt := ThK_t t (by omega)
    obtain ⟨k0, k1, k2, k3, k4, k5, k6⟩ := id hKt
    obtain ⟨y1, y2, y3, y4⟩ := ha.2 t (by omega)
    obtain ⟨⟨b1, b2⟩, ⟨b3, b4⟩, -⟩ := hb t (by omega)
    have hp : 2 ^ t ≤ 2048 := by
      have : 2 ^ t ≤ 2 ^ 11 := Nat.pow_le_pow_right (by decide) (by omega)
      omega
    have hol := otG_lt S0 (nr0 S0) t
    have e0 : otG S0 (nr0 S0) (t + 1) = otG S0 (nr0 S0) t + (if stN S0 t = 2 ∧ otB S0 t (nr0 S0) = false then 1 else 0) * 2 ^ t := rfl
    have nx : ∀ (c : Nat) (S1 : ST) (o4 o5 : Option AV), c = otG S0 (nr0 S0) (t + 1) → Fr scX scA S S1 → G sc mX9_otherwise 15 [some (aR 0), some (aI v), some (aI (nI c)), some (aI (nI (t + 1))), o4, o5] [] (mk S1) Q := fun c S1 o4 o5 e f => by
      subst e
      exact ih (t + 1) S1 o4 o5 (by omega) (hC.scr f) (hF.sc1 hth f) (hZ.fx hth f (fun a j q => by omega) (fun a q => by omega)) (fun S' g1 g2 => h S' ((qu_sc f).tr g1) (g2.trans (f.1 0 6 (by omega))))
    by_cases hs : stN S0 t = 2
    · have hen := hc.2.2.2.1 (Or.inr hs)
      refine G_iload_n (pc := 15) dX9_otherwise_15 rfl rfl ?_
      refine G_aload_n (pc := 16) dX9_otherwise_16 rfl rfl ?_
      refine S_getI (pc := 17) dX9_otherwise_17 fX9_27 rfl (by first | rfl | assumption) rfl ?_
      rw [hC.1]
      refine N_icmp_ge (pc := 20) (tgt := 95) dX9_otherwise_20 (by decide) (by omega) (fun c20 => absurd c20 (by omega)) (fun c20 => ?_)
      refine G_aload_n (pc := 23) dX9_otherwise_23 rfl rfl ?_
      refine S_getR (pc := 24) (b := 5) dX9_otherwise_24 fX9_23 rfl rfl (by first | rfl | assumption) rfl rfl ?_
      refine G_iload_n (pc := 27) dX9_otherwise_27 rfl rfl ?_
      refine N_aald (pc := 28) (t := 3) (n := 12) (b := 289 + 7 * t) dX9_otherwise_28 (by first | rfl | assumption) (by first | rfl | assumption) (by decide) (by omega) rfl ?_
      refine G_astore (pc := 29) dX9_otherwise_29 (by decide) rfl ?_
      refine G_aload (pc := 31) dX9_otherwise_31 rfl ?_
      refine S_getI (pc := 33) dX9_otherwise_33 fX9_145 rfl (by first | rfl | assumption) rfl ?_
      rw [hc.2.2.1]
      refine G_iconst (pc := 36) (v := nI 2) dX9_otherwise_36 (by decide) ?_
      refine N_icmp_eq (pc := 37) (tgt := 43) dX9_otherwise_37 (by decide) (by omega) (fun c37 => ?_) (fun c37 => absurd c37 (by omega))
      refine G_aload_n (pc := 43) dX9_otherwise_43 rfl rfl ?_
      refine S_getR (pc := 44) (b := 6) dX9_otherwise_44 fX9_34 rfl rfl (by first | rfl | assumption) rfl rfl ?_
      refine S_getR (pc := 47) (b := 21) dX9_otherwise_47 fX9_163 rfl rfl (by first | rfl | assumption) rfl rfl ?_
      refine G_iconst (pc := 50) (v := nI 0) dX9_otherwise_50 (by decide) ?_
      refine N_aald (pc := 51) (t := 4) (n := 64) (b := 22) dX9_otherwise_51 (by first | rfl | assumption) (by first | rfl | assumption) (by decide) (by omega) rfl ?_
      refine G_aload (pc := 52) dX9_otherwise_52 rfl ?_
      refine G_aload_n (pc := 54) dX9_otherwise_54 rfl rfl ?_
      refine S_getR (pc := 55) (b := 3) dX9_otherwise_55 fX9_18 rfl rfl (by first | rfl | assumption) rfl rfl ?_
      refine S_callV (av := [_, _]) (pc := 58) (z := mX3_makeOf) (ci := 2) dX9_otherwise_58 zX3_makeOf lX9_otherwise_167 rfl (by first | rfl | assumption) rfl rfl (sX3_makeOf (PgK_n 0 (by omega)) hKt RwK_s (by omega) (Or.inr (by omega)) y3 y4 (nr_22 hZ.nr q2) hok.1 (nr0_b hi q q2) hc.1 hc.2.1 (fun S2 l x1 x2 x3 => ⟨_, rfl, ?_⟩) (fun x1 S2 x2 x3 => ⟨_, rfl, ?_⟩))
      · skip
        have x2 : Fr scX scA S S2 := x2
        have hl := runP_len35 hok y3 x1
        have hen2 := hen.fr x2 (by omega) (by omega)
        have ho : otB S0 t (nr0 S0) = decide (l = lst (enB S0 t) (esN S0 t)) := by
          have el : enl S0 t = lst (enB S0 t) (esN S0 t) := rfl
          unfold otB
          rw [x1, el]
          by_cases z : l = lst (enB S0 t) (esN S0 t)
          · rw [decide_eq_true z, decide_eq_true (by rw [z])]
          · rw [decide_eq_false z, decide_eq_false (fun w => z (Option.some.inj w))]
        refine G_istore (pc := 61) dX9_otherwise_61 (by decide) rfl ?_
        refine G_iload (pc := 63) dX9_otherwise_63 rfl ?_
        refine B_if_eq (pc := 65) (tgt := 83) dX9_otherwise_65 (by decide) (fun c65 => absurd c65 (by decide)) (fun c65 => ?_)
        refine G_aload_n (pc := 68) dX9_otherwise_68 rfl rfl ?_
        refine S_getR (pc := 69) (b := 3) dX9_otherwise_69 fX9_18 rfl rfl (by first | rfl | assumption) rfl rfl ?_
        refine G_aload (pc := 72) dX9_otherwise_72 rfl ?_
        refine S_getR (pc := 74) (b := 289 + 7 * t + 4) dX9_otherwise_74 fX9_199 rfl rfl (by first | rfl | assumption) rfl rfl ?_
        refine S_callV (av := [_]) (pc := 77) (z := mX4_isLike) (ci := 3) dX9_otherwise_77 zX4_isLike lX9_otherwise_202 rfl (by first | rfl | assumption) rfl rfl (sX4_isLike RwK_s ⟨k4, k5, rfl⟩ hl (by rw [lst_len]; exact b4) x3 hen2.rw ⟨_, rfl, ?_⟩)
        refine B_if_ne (pc := 80) (tgt := 89) dX9_otherwise_80 (by decide) (fun c80 => ?_) (fun c80 => ?_)
        · skip
          have w2 : otB S0 t (nr0 S0) = true := ho.trans c80
          have en : otG S0 (nr0 S0) t = otG S0 (nr0 S0) (t + 1) := by
            rw [e0, if_neg (fun w => absurd (w2.symm.trans w.2) (by decide)), Nat.zero_mul, Nat.add_zero]
          refine N_iinc (pc := 89) dX9_otherwise_89 rfl (by decide) rfl ?_
          refine G_goto (pc := 92) (tgt := 15) dX9_otherwise_92 (by decide) ?_
          exact nx _ S2 _ _ en x2
        · skip
          have en : otG S0 (nr0 S0) t + 1 * 2 ^ t = otG S0 (nr0 S0) (t + 1) := by rw [e0, if_pos ⟨hs, ho.trans c80⟩]
          refine G_iload_n (pc := 83) dX9_otherwise_83 rfl rfl ?_
          refine G_iconst (pc := 84) (v := nI 1) dX9_otherwise_84 (by decide) ?_
          refine G_iload_n (pc := 85) dX9_otherwise_85 rfl rfl ?_
          refine G_ishl (pc := 86) dX9_otherwise_86 ?_
          rw [shlN (by omega) (by omega)]
          refine G_ior (pc := 87) dX9_otherwise_87 ?_
          rw [orN 1 hol]
          refine G_istore_n (pc := 88) dX9_otherwise_88 rfl (by decide) rfl ?_
          refine N_iinc (pc := 89) dX9_otherwise_89 rfl (by decide) rfl ?_
          refine G_goto (pc := 92) (tgt := 15) dX9_otherwise_92 (by decide) ?_
          exact nx _ S2 _ _ en x2
      have x2 : Fr scX scA S S2 := x2
      have ho : otB S0 t (nr0 S0) = false := by
        unfold otB
        rw [x1]
        exact decide_eq_false (fun w => by cases w)
      refine G_istore (pc := 61) dX9_otherwise_61 (by decide) rfl ?_
      refine G_iload (pc := 63) dX9_otherwise_63 rfl ?_
      refine B_if_eq (pc := 65) (tgt := 83) dX9_otherwise_65 (by decide) (fun c65 => ?_) (fun c65 => absurd c65 (by decide))
      refine G_iload_n (pc := 83) dX9_otherwise_83 rfl rfl ?_
      refine G_iconst (pc := 84) (v := nI 1) dX9_otherwise_84 (by decide) ?_
      refine G_iload_n (pc := 85) dX9_otherwise_85 rfl rfl ?_
      refine G_ishl (pc := 86) dX9_otherwise_86 ?_
      rw [shlN (by omega) (by omega)]
      refine G_ior (pc := 87) dX9_otherwise_87 ?_
      rw [orN 1 hol]
      refine G_istore_n (pc := 88) dX9_otherwise_88 rfl (by decide) rfl ?_
      refine N_iinc (pc := 89) dX9_otherwise_89 rfl (by decide) rfl ?_
      refine G_goto (pc := 92) (tgt := 15) dX9_otherwise_92 (by decide) ?_
      exact nx _ S2 _ _ (by rw [e0, if_pos ⟨hs, ho⟩]) x2
    · skip
      refine G_iload_n (pc := 15) dX9_otherwise_15 rfl rfl ?_
      refine G_aload_n (pc := 16) dX9_otherwise_16 rfl rfl ?_
      refine S_getI (pc := 17) dX9_otherwise_17 fX9_27 rfl (by first | rfl | assumption) rfl ?_
      rw [hC.1]
      refine N_icmp_ge (pc := 20) (tgt := 95) dX9_otherwise_20 (by decide) (by omega) (fun c20 => absurd c20 (by omega)) (fun c20 => ?_)
      refine G_aload_n (pc := 23) dX9_otherwise_23 rfl rfl ?_
      refine S_getR (pc := 24) (b := 5) dX9_otherwise_24 fX9_23 rfl rfl (by first | rfl | assumption) rfl rfl ?_
      refine G_iload_n (pc := 27) dX9_otherwise_27 rfl rfl ?_
      refine N_aald (pc := 28) (t := 3) (n := 12) (b := 289 + 7 * t) dX9_otherwise_28 (by first | rfl | assumption) (by first | rfl | assumption) (by decide) (by omega) rfl ?_
      refine G_astore (pc := 29) dX9_otherwise_29 (by decide) rfl ?_
      refine G_aload (pc := 31) dX9_otherwise_31 rfl ?_
      refine S_getI (pc := 33) dX9_otherwise_33 fX9_145 rfl (by first | rfl | assumption) rfl ?_
      rw [hc.2.2.1]
      refine G_iconst (pc := 36) (v := nI 2) dX9_otherwise_36 (by decide) ?_
      refine N_icmp_eq (pc := 37) (tgt := 43) dX9_otherwise_37 (by decide) (by omega) (fun c37 => absurd c37 (by omega)) (fun c37 => ?_)
      refine G_goto (pc := 40) (tgt := 89) dX9_otherwise_40 (by decide) ?_
      refine N_iinc (pc := 89) dX9_otherwise_89 rfl (by decide) rfl ?_
      refine G_goto (pc := 92) (tgt := 15) dX9_otherwise_92 (by decide) ?_
      exact nx _ S _ _ (by rw [e0, if_neg (fun w => hs w.1), Nat.zero_mul, Nat.add_zero]) Fr.rf
set_option maxRecDepth 100000 in
set_option maxHeartbeats 4000000 in
theorem sX9_otherwise {S0 : ST} (hi : MI0 S0) (hC : CTh S0 S) (hF : CIf S0 S) (h : ∀ S', FrN quX quA S S' → S'.1 0 6 = S.1 0 6 → CIf S0 S' → Q (some (aI (sp_otherwise S0))) (mk S')) : CT sc mX9_otherwise [aR 0] (mk S) Q := by
  refine S_of (by decide) rfl ?_
  show G sc mX9_otherwise 0 [some (aR 0), none, none, none, none, none] [] (mk S) Q
  unfold sp_otherwise at h
  refine G_aload_n (pc := 0) dX9_otherwise_0 rfl rfl ?_
  refine S_callV (av := []) (pc := 1) (z := mX9_fitRefusal) (ci := 8) dX9_otherwise_1 zX9_fitRefusal lX9_otherwise_156 rfl (by first | rfl | assumption) rfl rfl (fitR hi hC hF (fun q => ⟨_, rfl, ?_⟩) (fun q q2 S1 w1 w2 => ⟨_, rfl, ?_⟩) (fun q q2 S1 w1 w2 w3 => ⟨_, rfl, ?_⟩))
  · skip
    have h := h S FrN.rf rfl hF
    rw [lackS_2 q] at h
    refine G_istore_n (pc := 4) dX9_otherwise_4 rfl (by decide) rfl ?_
    refine G_iload_n (pc := 5) dX9_otherwise_5 rfl rfl ?_
    refine T_if_eq (pc := 6) (tgt := 11) dX9_otherwise_6 (by decide) (fun c6 => absurd c6 (by decide)) (fun c6 => ?_)
    refine G_iload_n (pc := 9) dX9_otherwise_9 rfl rfl ?_
    refine S_iret (pc := 10) dX9_otherwise_10 rfl ?_
    exact h
  · skip
    have h := h S1 (qu_fq w1) (w1.1 0 6 (by omega)) w2
    rw [lackS_4 q q2] at h
    refine G_istore_n (pc := 4) dX9_otherwise_4 rfl (by decide) rfl ?_
    refine G_iload_n (pc := 5) dX9_otherwise_5 rfl rfl ?_
    refine T_if_eq (pc := 6) (tgt := 11) dX9_otherwise_6 (by decide) (fun c6 => absurd c6 (by decide)) (fun c6 => ?_)
    refine G_iload_n (pc := 9) dX9_otherwise_9 rfl rfl ?_
    refine S_iret (pc := 10) dX9_otherwise_10 rfl ?_
    exact h
  rw [lackS_0 q q2] at h
  refine G_istore_n (pc := 4) dX9_otherwise_4 rfl (by decide) rfl ?_
  refine G_iload_n (pc := 5) dX9_otherwise_5 rfl rfl ?_
  refine T_if_eq (pc := 6) (tgt := 11) dX9_otherwise_6 (by decide) (fun c6 => ?_) (fun c6 => absurd c6 (by decide))
  refine G_iconst (pc := 11) (v := nI 0) dX9_otherwise_11 (by decide) ?_
  refine G_istore_n (pc := 12) dX9_otherwise_12 rfl (by decide) rfl ?_
  refine G_iconst (pc := 13) (v := nI 0) dX9_otherwise_13 (by decide) ?_
  refine G_istore_n (pc := 14) dX9_otherwise_14 rfl (by decide) rfl ?_
  exact otherC_lp hi q q2 (thN S0) 0 S1 _ _ (by omega) (hC.fq w1) w2 w3 (fun S' f g => h S' ((qu_fq w1).tr f) (g.trans (w1.1 0 6 (by omega))))
abbrev kqX (k : Nat) (a j : Nat) : Prop := quX a j ∨ kpX k a j
abbrev kqA (k : Nat) (a : Nat) : Prop := quA a ∨ kpA k a
set_option maxRecDepth 100000 in
set_option maxHeartbeats 4000000 in
theorem sX9_keep {S0 : ST} (hi : MI0 S0) (hk4 : kpN S0 ≤ 4) (hC : CTh S0 S) (hF : CIf S0 S) (hn : S.1 0 11 = nI (kpN S0)) (h2 : shL S0 0 = [] → Q (some (aI (-2))) (mk S)) (h4 : shL S0 0 ≠ [] → neA S0 (shL S0 0) = [] → ∀ S', FrN fqX mwA S S' → CIf S0 S' → Q (some (aI (-4))) (mk S'))
    (hfull : shL S0 0 ≠ [] → neA S0 (shL S0 0) ≠ [] → kpN S0 = 4 → ∀ S', FrN fqX mwA S S' → CIf S0 S' → Q (some (aI (-3))) (mk S'))
    (h : shL S0 0 ≠ [] → neA S0 (shL S0 0) ≠ [] → kpN S0 < 4 → ∀ S1 S', FrN fqX mwA S S1 → CIf S0 S1 → Fr (kpX (kpN S0)) (kpA (kpN S0)) S1 S' → S'.1 0 11 = nI (kpN S0 + 1) → PgIs S' (373 + 2 * kpN S0) (nr0 S0) → Q (some (aI (nI (kpN S0)))) (mk S')) : CT sc mX9_keep [aR 0] (mk S) Q := by
  refine S_of (by decide) rfl ?_
  show G sc mX9_keep 0 [some (aR 0), none] [] (mk S) Q
  refine G_aload_n (pc := 0) dX9_keep_0 rfl rfl ?_
  refine S_callV (av := []) (pc := 1) (z := mX9_fitRefusal) (ci := 8) dX9_keep_1 zX9_fitRefusal lX9_keep_156 rfl (by first | rfl | assumption) rfl rfl (fitR hi hC hF (fun q => ⟨_, rfl, ?_⟩) (fun q q2 S1 w1 w2 => ⟨_, rfl, ?_⟩) (fun q q2 S1 w1 w2 w3 => ⟨_, rfl, ?_⟩))
  · skip
    have h := h2 q
    refine G_istore_n (pc := 4) dX9_keep_4 rfl (by decide) rfl ?_
    refine G_iload_n (pc := 5) dX9_keep_5 rfl rfl ?_
    refine T_if_eq (pc := 6) (tgt := 11) dX9_keep_6 (by decide) (fun c6 => absurd c6 (by decide)) (fun c6 => ?_)
    refine G_iload_n (pc := 9) dX9_keep_9 rfl rfl ?_
    refine S_iret (pc := 10) dX9_keep_10 rfl ?_
    exact h
  · skip
    have h := h4 q q2 S1 w1 w2
    refine G_istore_n (pc := 4) dX9_keep_4 rfl (by decide) rfl ?_
    refine G_iload_n (pc := 5) dX9_keep_5 rfl rfl ?_
    refine T_if_eq (pc := 6) (tgt := 11) dX9_keep_6 (by decide) (fun c6 => absurd c6 (by decide)) (fun c6 => ?_)
    refine G_iload_n (pc := 9) dX9_keep_9 rfl rfl ?_
    refine S_iret (pc := 10) dX9_keep_10 rfl ?_
    exact h
  skip
  refine G_istore_n (pc := 4) dX9_keep_4 rfl (by decide) rfl ?_
  refine G_iload_n (pc := 5) dX9_keep_5 rfl rfl ?_
  refine T_if_eq (pc := 6) (tgt := 11) dX9_keep_6 (by decide) (fun c6 => ?_) (fun c6 => absurd c6 (by decide))
  refine G_aload_n (pc := 11) dX9_keep_11 rfl rfl ?_
  refine G_aload_n (pc := 12) dX9_keep_12 rfl rfl ?_
  refine S_getR (pc := 13) (b := 6) dX9_keep_13 fX9_34 rfl rfl (by first | rfl | assumption) rfl rfl ?_
  refine S_getR (pc := 16) (b := 21) dX9_keep_16 fX9_163 rfl rfl (by first | rfl | assumption) rfl rfl ?_
  refine G_iconst (pc := 19) (v := nI 0) dX9_keep_19 (by decide) ?_
  refine N_aald (pc := 20) (t := 4) (n := 64) (b := 22) dX9_keep_20 (by first | rfl | assumption) (by first | rfl | assumption) (by decide) (by omega) rfl ?_
  refine S_callV (av := [_]) (pc := 21) (z := mX9_keepProgram) (ci := 8) dX9_keep_21 zX9_keepProgram lX9_keep_206 rfl (by first | rfl | assumption) rfl rfl (sX9_keepProgram (PgK_n 0 (by omega)) (by omega) (nr_22 w3.nr q2) hk4 ((w1.1 0 11 (by omega)).trans hn) (fun e => ⟨_, rfl, ?_⟩) (fun e S2 x1 x2 x3 => ⟨_, rfl, ?_⟩))
  · skip
    have h := hfull q q2 e S1 w1 w2
    refine S_iret (pc := 24) dX9_keep_24 rfl ?_
    exact h
  have h := h q q2 e S1 S2 w1 w2 x1 x2 x3
  refine S_iret (pc := 24) dX9_keep_24 rfl ?_
  exact h
end C26
