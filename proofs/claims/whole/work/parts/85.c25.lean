/-! the class: queries of programs -/
theorem nI_lN {n : Nat} (h : n < 2147483648) : (nI n).toInt64 = lN n := by
  apply Int64.toInt_inj.mp
  rw [Int32.toInt_toInt64, nIt h]
  unfold lN
  exact (Int64.toInt_ofNat_of_lt (by omega)).symm
theorem FtZ.nr {S0 S : ST} (h : FtZ S0 S) : NrIs S (neA S0 (shL S0 0)) := by
  obtain ⟨Z, z1, z2, z3, z4⟩ := h
  rw [neA_t z1]
  exact z4.2
theorem nr_22 {S0 S : ST} (h : NrIs S (neA S0 (shL S0 0))) (h0 : neA S0 (shL S0 0) ≠ []) : PgIs S 22 (nr0 S0) := h.2.2 0 (List.length_pos_iff.mpr h0)
section C25
variable {sc : SC} {S : ST} {Q : Option AV → HM → Prop}
theorem fitR {S0 : ST} (hi : MI0 S0) (hC : CTh S0 S) (hF : CIf S0 S) (h2 : shL S0 0 = [] → Q (some (aI (-2))) (mk S)) (h4 : shL S0 0 ≠ [] → neA S0 (shL S0 0) = [] → ∀ S', FrN fqX mwA S S' → CIf S0 S' → Q (some (aI (-4))) (mk S'))
    (h0 : shL S0 0 ≠ [] → neA S0 (shL S0 0) ≠ [] → ∀ S', FrN fqX mwA S S' → CIf S0 S' → FtZ S0 S' → Q (some (aI (nI 0))) (mk S')) : CT sc mX9_fitRefusal [aR 0] (mk S) Q := by
  refine sX9_fitRefusal hi hC hF h2 (fun g S' w1 w2 w3 w4 => ?_)
  by_cases hn : neA S0 (shL S0 0) = []
  · rw [if_pos hn]
    exact h4 g hn S' w1 w2
  · rw [if_neg hn]
    exact h0 g hn S' w1 w2 w3
set_option maxRecDepth 100000 in
set_option maxHeartbeats 4000000 in
theorem sX9_kept {S0 : ST} {p w : Int32} (hk4 : kpN S0 ≤ 4) (hP : CPr S0 S) (h : Q (some (aI (sp_kept S0 p w))) (mk S)) : CT sc mX9_kept [aR 0, aI p, aI w] (mk S) Q := by
  refine S_of (by decide) rfl ?_
  show G sc mX9_kept 0 [some (aR 0), some (aI p), some (aI w)] [] (mk S) Q
  unfold sp_kept at h
  rcases hT : isTh (kpN S0) p with _ | _
  · rw [if_neg (by simp [hT])] at h
    refine G_aload_n (pc := 0) dX9_kept_0 rfl rfl ?_
    refine G_iload_n (pc := 1) dX9_kept_1 rfl rfl ?_
    refine S_callV (av := [_]) (pc := 2) (z := mX9_isProgram) (ci := 8) dX9_kept_2 zX9_isProgram lX9_kept_217 rfl (by first | rfl | assumption) rfl rfl (sX9_isProgram hP.1 (by omega) ⟨_, rfl, ?_⟩)
    rw [hT]
    refine B_if_eq (pc := 5) (tgt := 21) dX9_kept_5 (by decide) (fun c5 => ?_) (fun c5 => absurd c5 (by decide))
    refine G_iconst (pc := 21) (v := (-1)) dX9_kept_21 (by decide) ?_
    refine S_iret (pc := 22) dX9_kept_22 rfl ?_
    exact h
  · obtain ⟨k, rfl, hk, hk2⟩ := isTh_k hT (by omega)
    have hK := PgK_k k (by omega)
    obtain ⟨k1, k2⟩ := id hK
    obtain ⟨p1, p2, p3⟩ := hP.2 k hk
    rw [hk2] at h
    have h : Q (some (aI (if 0 ≤ w.toInt ∧ w.toInt ≤ 4 then tolP (prL S0 408 (3 * k)) w.toNatClampNeg else -1))) (mk S) := by
      by_cases c : 0 ≤ w.toInt ∧ w.toInt ≤ 4
      · rw [if_pos c]; rw [if_pos ⟨hT, c⟩] at h; exact h
      · rw [if_neg c]; rw [if_neg (fun q => c q.2)] at h; exact h
    refine G_aload_n (pc := 0) dX9_kept_0 rfl rfl ?_
    refine G_iload_n (pc := 1) dX9_kept_1 rfl rfl ?_
    refine S_callV (av := [_]) (pc := 2) (z := mX9_isProgram) (ci := 8) dX9_kept_2 zX9_isProgram lX9_kept_217 rfl (by first | rfl | assumption) rfl rfl (sX9_isProgram hP.1 (by omega) ⟨_, rfl, ?_⟩)
    rw [hT]
    refine B_if_eq (pc := 5) (tgt := 21) dX9_kept_5 (by decide) (fun c5 => absurd c5 (by decide)) (fun c5 => ?_)
    refine G_aload_n (pc := 8) dX9_kept_8 rfl rfl ?_
    refine S_getR (pc := 9) (b := 282) dX9_kept_9 fX9_61 rfl rfl (by first | rfl | assumption) rfl rfl ?_
    refine G_iload_n (pc := 12) dX9_kept_12 rfl rfl ?_
    refine N_aald (pc := 13) (t := 4) (n := 4) (b := 373 + 2 * k) dX9_kept_13 (by first | rfl | assumption) (by first | rfl | assumption) (by decide) (by omega) rfl ?_
    refine G_iload_n (pc := 14) dX9_kept_14 rfl rfl ?_
    refine S_callV (av := [_]) (pc := 15) (z := mX3_told) (ci := 2) dX9_kept_15 zX3_told lX9_kept_166 rfl (by first | rfl | assumption) rfl rfl (sX3_told hK p1 p3.2.1 ⟨_, rfl, ?_⟩)
    refine G_goto (pc := 18) (tgt := 22) dX9_kept_18 (by decide) ?_
    refine S_iret (pc := 22) dX9_kept_22 rfl ?_
    exact h
set_option maxRecDepth 100000 in
set_option maxHeartbeats 4000000 in
theorem sX9_run {S0 : ST} {p t i : Int32} (ha : MIa S0) (hk4 : kpN S0 ≤ 4) (hC : CTh S0 S) (hP : CPr S0 S) (h : ∀ S', Fr scX scA S S' → Q (some (aI (sp_run S0 p t i))) (mk S')) : CT sc mX9_run [aR 0, aI p, aI t, aI i] (mk S) Q := by
  refine S_of (by decide) rfl ?_
  show G sc mX9_run 0 [some (aR 0), some (aI p), some (aI t), some (aI i)] [] (mk S) Q
  have hth := thB ha
  have zm : (-1 : Int32).toInt = -1 := rfl
  unfold sp_run at h
  have bad : ¬ (isTh (kpN S0) p = true ∧ isTh (thN S0) t = true ∧ -1 ≤ i.toInt) → Q (some (aI (-1))) (mk S) := fun q => by
    have := h S Fr.rf
    rw [if_neg q] at this
    exact this
  rcases hT : isTh (kpN S0) p with _ | _
  · skip
    refine G_aload_n (pc := 0) dX9_run_0 rfl rfl ?_
    refine G_iload_n (pc := 1) dX9_run_1 rfl rfl ?_
    refine S_callV (av := [_]) (pc := 2) (z := mX9_isProgram) (ci := 8) dX9_run_2 zX9_isProgram lX9_run_217 rfl (by first | rfl | assumption) rfl rfl (sX9_isProgram hP.1 (by omega) ⟨_, rfl, ?_⟩)
    rw [hT]
    refine B_if_eq (pc := 5) (tgt := 21) dX9_run_5 (by decide) (fun c5 => ?_) (fun c5 => absurd c5 (by decide))
    refine G_iconst (pc := 21) (v := (-1)) dX9_run_21 (by decide) ?_
    refine S_iret (pc := 22) dX9_run_22 rfl ?_
    exact bad (by simp [hT])
  · rcases hT2 : isTh (thN S0) t with _ | _
    · skip
      refine G_aload_n (pc := 0) dX9_run_0 rfl rfl ?_
      refine G_iload_n (pc := 1) dX9_run_1 rfl rfl ?_
      refine S_callV (av := [_]) (pc := 2) (z := mX9_isProgram) (ci := 8) dX9_run_2 zX9_isProgram lX9_run_217 rfl (by first | rfl | assumption) rfl rfl (sX9_isProgram hP.1 (by omega) ⟨_, rfl, ?_⟩)
      rw [hT]
      refine B_if_eq (pc := 5) (tgt := 21) dX9_run_5 (by decide) (fun c5 => absurd c5 (by decide)) (fun c5 => ?_)
      refine G_aload_n (pc := 8) dX9_run_8 rfl rfl ?_
      refine G_iload_n (pc := 9) dX9_run_9 rfl rfl ?_
      refine S_callV (av := [_]) (pc := 10) (z := mX9_isThing) (ci := 8) dX9_run_10 zX9_isThing lX9_run_122 rfl (by first | rfl | assumption) rfl rfl (sX9_isThing hC.1 (by omega) ⟨_, rfl, ?_⟩)
      rw [hT2]
      refine B_if_eq (pc := 13) (tgt := 21) dX9_run_13 (by decide) (fun c13 => ?_) (fun c13 => absurd c13 (by decide))
      refine G_iconst (pc := 21) (v := (-1)) dX9_run_21 (by decide) ?_
      refine S_iret (pc := 22) dX9_run_22 rfl ?_
      exact bad (by simp [hT2])
    · by_cases hi : -1 ≤ i.toInt
      · obtain ⟨k, rfl, hk, hk2⟩ := isTh_k hT (by omega)
        obtain ⟨u, rfl, hu, hu2⟩ := isTh_k hT2 (by omega)
        have hK := PgK_k k (by omega)
        obtain ⟨k1, k2⟩ := id hK
        obtain ⟨p1, p2, p3⟩ := hP.2 k hk
        have hKt := ThK_t u (by omega)
        have hc := (hC.2 u (by omega)).1 hu
        obtain ⟨z1, z2, z3, z4⟩ := ha.2 u hu
        rw [if_pos ⟨hT, hT2, hi⟩, hk2, hu2] at h
        refine G_aload_n (pc := 0) dX9_run_0 rfl rfl ?_
        refine G_iload_n (pc := 1) dX9_run_1 rfl rfl ?_
        refine S_callV (av := [_]) (pc := 2) (z := mX9_isProgram) (ci := 8) dX9_run_2 zX9_isProgram lX9_run_217 rfl (by first | rfl | assumption) rfl rfl (sX9_isProgram hP.1 (by omega) ⟨_, rfl, ?_⟩)
        rw [hT]
        refine B_if_eq (pc := 5) (tgt := 21) dX9_run_5 (by decide) (fun c5 => absurd c5 (by decide)) (fun c5 => ?_)
        refine G_aload_n (pc := 8) dX9_run_8 rfl rfl ?_
        refine G_iload_n (pc := 9) dX9_run_9 rfl rfl ?_
        refine S_callV (av := [_]) (pc := 10) (z := mX9_isThing) (ci := 8) dX9_run_10 zX9_isThing lX9_run_122 rfl (by first | rfl | assumption) rfl rfl (sX9_isThing hC.1 (by omega) ⟨_, rfl, ?_⟩)
        rw [hT2]
        refine B_if_eq (pc := 13) (tgt := 21) dX9_run_13 (by decide) (fun c13 => absurd c13 (by decide)) (fun c13 => ?_)
        refine G_iload_n (pc := 16) dX9_run_16 rfl rfl ?_
        refine G_iconst (pc := 17) (v := (-1)) dX9_run_17 (by decide) ?_
        refine T_icmp_ge (pc := 18) (tgt := 23) dX9_run_18 (by decide) (fun c18 => ?_) (fun c18 => absurd c18 (by omega))
        refine G_aload_n (pc := 23) dX9_run_23 rfl rfl ?_
        refine S_getR (pc := 24) (b := 282) dX9_run_24 fX9_61 rfl rfl (by first | rfl | assumption) rfl rfl ?_
        refine G_iload_n (pc := 27) dX9_run_27 rfl rfl ?_
        refine N_aald (pc := 28) (t := 4) (n := 4) (b := 373 + 2 * k) dX9_run_28 (by first | rfl | assumption) (by first | rfl | assumption) (by decide) (by omega) rfl ?_
        refine G_aload_n (pc := 29) dX9_run_29 rfl rfl ?_
        refine S_getR (pc := 30) (b := 5) dX9_run_30 fX9_23 rfl rfl (by first | rfl | assumption) rfl rfl ?_
        refine G_iload_n (pc := 33) dX9_run_33 rfl rfl ?_
        refine N_aald (pc := 34) (t := 3) (n := 12) (b := 289 + 7 * u) dX9_run_34 (by first | rfl | assumption) (by first | rfl | assumption) (by decide) (by omega) rfl ?_
        refine G_aload_n (pc := 35) dX9_run_35 rfl rfl ?_
        refine S_getR (pc := 36) (b := 3) dX9_run_36 fX9_18 rfl rfl (by first | rfl | assumption) rfl rfl ?_
        refine S_callV (av := [_, _]) (pc := 39) (z := mX3_makeOf) (ci := 2) dX9_run_39 zX3_makeOf lX9_run_167 rfl (by first | rfl | assumption) rfl rfl (sX3_makeOf hK hKt RwK_s (by omega) (Or.inr (by omega)) z3 z4 p1 p3.1 p2 hc.1 hc.2.1 (fun S1 l x1 x2 x3 => ⟨_, rfl, ?_⟩) (fun x1 S1 x2 x3 => ⟨_, rfl, ?_⟩))
        · skip
          have h := h S1 x2
          rw [x1] at h
          have hl := runP_len35 p3 z3 x1
          refine B_if_eq (pc := 42) (tgt := 56) dX9_run_42 (by decide) (fun c42 => absurd c42 (by decide)) (fun c42 => ?_)
          refine G_aload_n (pc := 45) dX9_run_45 rfl rfl ?_
          refine S_getR (pc := 46) (b := 3) dX9_run_46 fX9_18 rfl rfl (by first | rfl | assumption) rfl rfl ?_
          refine G_iload_n (pc := 49) dX9_run_49 rfl rfl ?_
          refine S_callV (av := [_]) (pc := 50) (z := mX4_told) (ci := 3) dX9_run_50 zX4_told lX9_run_128 rfl (by first | rfl | assumption) rfl rfl (sX4_told RwK_s x3 hl ⟨_, rfl, ?_⟩)
          rw [tldR_ge hi]
          refine G_goto (pc := 53) (tgt := 58) dX9_run_53 (by decide) ?_
          refine S_iret (pc := 58) dX9_run_58 rfl ?_
          exact h
        have h := h S1 x2
        rw [x1] at h
        refine B_if_eq (pc := 42) (tgt := 56) dX9_run_42 (by decide) (fun c42 => ?_) (fun c42 => absurd c42 (by decide))
        refine G_bipush (pc := 56) (v := (-4)) dX9_run_56 (by decide) ?_
        refine S_iret (pc := 58) dX9_run_58 rfl ?_
        exact h
      · skip
        refine G_aload_n (pc := 0) dX9_run_0 rfl rfl ?_
        refine G_iload_n (pc := 1) dX9_run_1 rfl rfl ?_
        refine S_callV (av := [_]) (pc := 2) (z := mX9_isProgram) (ci := 8) dX9_run_2 zX9_isProgram lX9_run_217 rfl (by first | rfl | assumption) rfl rfl (sX9_isProgram hP.1 (by omega) ⟨_, rfl, ?_⟩)
        rw [hT]
        refine B_if_eq (pc := 5) (tgt := 21) dX9_run_5 (by decide) (fun c5 => absurd c5 (by decide)) (fun c5 => ?_)
        refine G_aload_n (pc := 8) dX9_run_8 rfl rfl ?_
        refine G_iload_n (pc := 9) dX9_run_9 rfl rfl ?_
        refine S_callV (av := [_]) (pc := 10) (z := mX9_isThing) (ci := 8) dX9_run_10 zX9_isThing lX9_run_122 rfl (by first | rfl | assumption) rfl rfl (sX9_isThing hC.1 (by omega) ⟨_, rfl, ?_⟩)
        rw [hT2]
        refine B_if_eq (pc := 13) (tgt := 21) dX9_run_13 (by decide) (fun c13 => absurd c13 (by decide)) (fun c13 => ?_)
        refine G_iload_n (pc := 16) dX9_run_16 rfl rfl ?_
        refine G_iconst (pc := 17) (v := (-1)) dX9_run_17 (by decide) ?_
        refine T_icmp_ge (pc := 18) (tgt := 23) dX9_run_18 (by decide) (fun c18 => absurd c18 (by omega)) (fun c18 => ?_)
        refine G_iconst (pc := 21) (v := (-1)) dX9_run_21 (by decide) ?_
        refine S_iret (pc := 22) dX9_run_22 rfl ?_
        exact bad (fun q => hi q.2.2)
set_option maxRecDepth 100000 in
set_option maxHeartbeats 4000000 in
theorem sX9_count {S0 : ST} {w : Int32} (ha : MIa S0) (hb : MIb S0) (hC : CTh S0 S) (hP : CPr S0 S) (h : Q (some (aI (sp_count S0 w))) (mk S)) : CT sc mX9_count [aR 0, aI w] (mk S) Q := by
  refine S_of (by decide) rfl ?_
  show G sc mX9_count 0 [some (aR 0), some (aI w)] [] (mk S) Q
  have hth := thB ha
  unfold sp_count at h
  by_cases c : 0 ≤ w.toInt ∧ w.toInt ≤ 4
  · rw [if_pos c] at h
    by_cases c0 : w.toInt = 0
    · rw [if_pos c0] at h
      refine G_iload_n (pc := 0) dX9_count_0 rfl rfl ?_
      refine G_tableIn (pc := 1) (tgt := 36) dX9_count_1 (by omega) (by omega) (off := 35) (by rw [c0]; rfl) (by decide) ?_
      refine G_aload_n (pc := 36) dX9_count_36 rfl rfl ?_
      refine S_getI (pc := 37) dX9_count_37 fX9_27 rfl (by first | rfl | assumption) rfl ?_
      rw [hC.1]
      refine S_iret (pc := 40) dX9_count_40 rfl ?_
      exact h
    · rw [if_neg c0] at h
      by_cases c4 : w.toInt = 4
      · rw [if_pos c4] at h
        refine G_iload_n (pc := 0) dX9_count_0 rfl rfl ?_
        refine G_tableIn (pc := 1) (tgt := 47) dX9_count_1 (by omega) (by omega) (off := 46) (by rw [c4]; rfl) (by decide) ?_
        refine G_aload_n (pc := 47) dX9_count_47 rfl rfl ?_
        refine S_getI (pc := 48) dX9_count_48 fX9_65 rfl (by first | rfl | assumption) rfl ?_
        rw [hP.1]
        refine S_iret (pc := 51) dX9_count_51 rfl ?_
        exact h
      · rw [if_neg c4] at h
        have e : (w.toInt - 0).toNat = 1 ∨ (w.toInt - 0).toNat = 2 ∨ (w.toInt - 0).toNat = 3 := by omega
        refine G_iload_n (pc := 0) dX9_count_0 rfl rfl ?_
        refine G_tableIn (pc := 1) (tgt := 41) dX9_count_1 (by omega) (by omega) (off := 40) (by rcases e with e | e | e <;> (rw [e]; rfl)) (by decide) ?_
        refine G_aload_n (pc := 41) dX9_count_41 rfl rfl ?_
        refine G_iload_n (pc := 42) dX9_count_42 rfl rfl ?_
        refine S_callV (av := [_]) (pc := 43) (z := mX9_howMany) (ci := 8) dX9_count_43 zX9_howMany lX9_count_151 rfl (by first | rfl | assumption) rfl rfl (sX9_howMany hb hth hC ⟨_, rfl, ?_⟩)
        refine S_iret (pc := 46) dX9_count_46 rfl ?_
        exact h
  · rw [if_neg c] at h
    refine G_iload_n (pc := 0) dX9_count_0 rfl rfl ?_
    refine G_tableOut (pc := 1) (tgt := 52) dX9_count_1 (by omega) (by decide) ?_
    refine G_iconst (pc := 52) (v := (-1)) dX9_count_52 (by decide) ?_
    refine S_iret (pc := 53) dX9_count_53 rfl ?_
    exact h
set_option maxRecDepth 100000 in
set_option maxHeartbeats 4000000 in
theorem sX9_fitting {S0 : ST} {n : Int32} (hi : MI0 S0) (hC : CTh S0 S) (hF : CIf S0 S) (h : ∀ S', FrN fqX mwA S S' → CIf S0 S' → Q (some (aL (sp_fitting S0 n))) (mk S')) : CT sc mX9_fitting [aR 0, aI n] (mk S) Q := by
  refine S_of (by decide) rfl ?_
  show G sc mX9_fitting 0 [some (aR 0), some (aI n)] [] (mk S) Q
  have z3 : (nI 3).toInt = 3 := rfl
  unfold sp_fitting at h
  by_cases c : 0 ≤ n.toInt ∧ n.toInt ≤ 3
  · have en : n = nI n.toInt.toNat := nI_ofT (by omega)
    have ec : n.toNatClampNeg = n.toInt.toNat := nI_clampT (by omega)
    rw [if_pos c, ec] at h
    have hk : n.toInt.toNat ≤ 3 := by omega
    have e0 : n.toInt = 0 ↔ n.toInt.toNat = 0 := by omega
    generalize hkn : n.toInt.toNat = k at en h hk e0
    by_cases h00 : shL S0 0 = []
    · skip
      refine G_iload_n (pc := 0) dX9_fitting_0 rfl rfl ?_
      refine T_if_lt (pc := 1) (tgt := 9) dX9_fitting_1 (by decide) (fun c1 => absurd c1 (by omega)) (fun c1 => ?_)
      refine G_iload_n (pc := 4) dX9_fitting_4 rfl rfl ?_
      refine G_iconst (pc := 5) (v := nI 3) dX9_fitting_5 (by decide) ?_
      refine T_icmp_le (pc := 6) (tgt := 13) dX9_fitting_6 (by decide) (fun c6 => ?_) (fun c6 => absurd c6 (by omega))
      refine G_aload_n (pc := 13) dX9_fitting_13 rfl rfl ?_
      refine S_callV (av := []) (pc := 14) (z := mX9_fitRefusal) (ci := 8) dX9_fitting_14 zX9_fitRefusal lX9_fitting_156 rfl (by first | rfl | assumption) rfl rfl (sX9_fitRefusal hi hC hF (fun _ => ⟨_, rfl, ?_⟩) (fun q => absurd h00 q))
      refine G_bipush (pc := 17) (v := (-2)) dX9_fitting_17 (by decide) ?_
      refine T_icmp_ne (pc := 19) (tgt := 26) dX9_fitting_19 (by decide) (fun c19 => absurd c19 (by decide)) (fun c19 => ?_)
      refine G_ldc2 (pc := 22) dX9_fitting_22 kX9_160 ?_
      refine S_lret (pc := 25) dX9_fitting_25 rfl ?_
      have := h S FrN.rf hF
      rw [if_pos h00] at this
      exact this
    · skip
      refine G_iload_n (pc := 0) dX9_fitting_0 rfl rfl ?_
      refine T_if_lt (pc := 1) (tgt := 9) dX9_fitting_1 (by decide) (fun c1 => absurd c1 (by omega)) (fun c1 => ?_)
      refine G_iload_n (pc := 4) dX9_fitting_4 rfl rfl ?_
      refine G_iconst (pc := 5) (v := nI 3) dX9_fitting_5 (by decide) ?_
      refine T_icmp_le (pc := 6) (tgt := 13) dX9_fitting_6 (by decide) (fun c6 => ?_) (fun c6 => absurd c6 (by omega))
      refine G_aload_n (pc := 13) dX9_fitting_13 rfl rfl ?_
      refine S_callV (av := []) (pc := 14) (z := mX9_fitRefusal) (ci := 8) dX9_fitting_14 zX9_fitRefusal lX9_fitting_156 rfl (by first | rfl | assumption) rfl rfl (sX9_fitRefusal hi hC hF (fun q => absurd q h00) (fun _ S1 w1 w2 w3 w4 => ⟨_, rfl, ?_⟩))
      refine G_bipush (pc := 17) (v := (-2)) dX9_fitting_17 (by decide) ?_
      refine T_icmp_ne (pc := 19) (tgt := 26) dX9_fitting_19 (by decide) (fun c19 => ?_) (fun c19 => absurd c19 (by split <;> decide))
      obtain ⟨Z, y1, y2, y3, y4⟩ := w3
      obtain ⟨m1, m2, m3⟩ := y4.1.cnt y2 h00 y3
      have b1 := fitN_le (n := 1) y2 h00 y3
      have b2 := fitN_le (n := 2) y2 h00 y3
      have b3 := fitN_le (n := 3) y2 h00 y3
      have h := h S1 w1 w2
      rw [if_neg h00] at h
      rw [fitN_t y1, fitN_t y1, fitN_t y1, fitN_t y1] at h
      have hv : Q (some (aL (lN (hmN (fitN Z (shL S0 0) 1) (fitN Z (shL S0 0) 2) (fitN Z (shL S0 0) 3) k)))) (mk S1) := by
        unfold hmN
        by_cases k0 : k = 0
        · rw [if_pos (e0.mpr k0)] at h
          rw [if_neg (by omega), if_neg (by omega), if_neg (by omega)]
          exact h
        · rw [if_neg (fun q => k0 (e0.mp q))] at h
          rcases (show k = 1 ∨ k = 2 ∨ k = 3 by omega) with rfl | rfl | rfl
          · exact h
          · exact h
          · exact h
      have hb : hmN (fitN Z (shL S0 0) 1) (fitN Z (shL S0 0) 2) (fitN Z (shL S0 0) 3) k < 2147483648 := by
        unfold hmN
        repeat' split
        all_goals omega
      rw [← nI_lN hb] at hv
      rw [en]
      refine G_aload_n (pc := 26) dX9_fitting_26 rfl rfl ?_
      refine S_getR (pc := 27) (b := 6) dX9_fitting_27 fX9_34 rfl rfl (by first | rfl | assumption) rfl rfl ?_
      refine G_iload_n (pc := 30) dX9_fitting_30 rfl rfl ?_
      refine S_callV (av := [_]) (pc := 31) (z := mX0_howMany) (ci := 0) dX9_fitting_31 zX0_howMany lX9_fitting_162 rfl (by first | rfl | assumption) rfl rfl (sX0_howMany hk m1 m2 m3 ⟨_, rfl, ?_⟩)
      refine G_i2l (pc := 34) dX9_fitting_34 ?_
      refine S_lret (pc := 35) dX9_fitting_35 rfl ?_
      exact hv
  · have h := h S FrN.rf hF
    rw [if_neg c] at h
    refine G_iload_n (pc := 0) dX9_fitting_0 rfl rfl ?_
    refine T_if_lt (pc := 1) (tgt := 9) dX9_fitting_1 (by decide) (fun c1 => ?_) (fun c1 => ?_)
    · skip
      refine G_ldc2 (pc := 9) dX9_fitting_9 kX9_154 ?_
      refine S_lret (pc := 12) dX9_fitting_12 rfl ?_
      exact h
    · skip
      refine G_iload_n (pc := 4) dX9_fitting_4 rfl rfl ?_
      refine G_iconst (pc := 5) (v := nI 3) dX9_fitting_5 (by decide) ?_
      refine T_icmp_le (pc := 6) (tgt := 13) dX9_fitting_6 (by decide) (fun c6 => absurd c6 (by omega)) (fun c6 => ?_)
      refine G_ldc2 (pc := 9) dX9_fitting_9 kX9_154 ?_
      refine S_lret (pc := 12) dX9_fitting_12 rfl ?_
      exact h
set_option maxRecDepth 100000 in
set_option maxHeartbeats 4000000 in
theorem sX9_shortest {S0 : ST} {w : Int32} (hi : MI0 S0) (hC : CTh S0 S) (hF : CIf S0 S) (h : ∀ S', FrN fqX mwA S S' → CIf S0 S' → Q (some (aI (sp_shortest S0 w))) (mk S')) : CT sc mX9_shortest [aR 0, aI w] (mk S) Q := by
  refine S_of (by decide) rfl ?_
  show G sc mX9_shortest 0 [some (aR 0), some (aI w), none] [] (mk S) Q
  have z4 : (nI 4).toInt = 4 := rfl
  unfold sp_shortest at h
  by_cases c : 0 ≤ w.toInt ∧ w.toInt ≤ 4
  · rw [if_pos c] at h
    refine G_iload_n (pc := 0) dX9_shortest_0 rfl rfl ?_
    refine T_if_lt (pc := 1) (tgt := 9) dX9_shortest_1 (by decide) (fun c1 => absurd c1 (by omega)) (fun c1 => ?_)
    refine G_iload_n (pc := 4) dX9_shortest_4 rfl rfl ?_
    refine G_iconst (pc := 5) (v := nI 4) dX9_shortest_5 (by decide) ?_
    refine T_icmp_le (pc := 6) (tgt := 11) dX9_shortest_6 (by decide) (fun c6 => ?_) (fun c6 => absurd c6 (by omega))
    refine G_aload_n (pc := 11) dX9_shortest_11 rfl rfl ?_
    refine S_callV (av := []) (pc := 12) (z := mX9_fitRefusal) (ci := 8) dX9_shortest_12 zX9_fitRefusal lX9_shortest_156 rfl (by first | rfl | assumption) rfl rfl (fitR hi hC hF (fun q => ⟨_, rfl, ?_⟩) (fun q q2 S1 w1 w2 => ⟨_, rfl, ?_⟩) (fun q q2 S1 w1 w2 w3 => ⟨_, rfl, ?_⟩))
    · skip
      have h := h S FrN.rf hF
      rw [lackS_2 q] at h
      refine G_istore_n (pc := 15) dX9_shortest_15 rfl (by decide) rfl ?_
      refine G_iload_n (pc := 16) dX9_shortest_16 rfl rfl ?_
      refine T_if_eq (pc := 17) (tgt := 24) dX9_shortest_17 (by decide) (fun c17 => absurd c17 (by decide)) (fun c17 => ?_)
      refine G_iload_n (pc := 20) dX9_shortest_20 rfl rfl ?_
      refine G_goto (pc := 21) (tgt := 37) dX9_shortest_21 (by decide) ?_
      refine S_iret (pc := 37) dX9_shortest_37 rfl ?_
      exact h
    · skip
      have h := h S1 w1 w2
      rw [lackS_4 q q2] at h
      refine G_istore_n (pc := 15) dX9_shortest_15 rfl (by decide) rfl ?_
      refine G_iload_n (pc := 16) dX9_shortest_16 rfl rfl ?_
      refine T_if_eq (pc := 17) (tgt := 24) dX9_shortest_17 (by decide) (fun c17 => absurd c17 (by decide)) (fun c17 => ?_)
      refine G_iload_n (pc := 20) dX9_shortest_20 rfl rfl ?_
      refine G_goto (pc := 21) (tgt := 37) dX9_shortest_21 (by decide) ?_
      refine S_iret (pc := 37) dX9_shortest_37 rfl ?_
      exact h
    have h := h S1 w1 w2
    rw [lackS_0 q q2] at h
    have hk := PgK_n 0 (by omega)
    have h : Q (some (aI (if 0 ≤ w.toInt ∧ w.toInt ≤ 4 then tolP (nr0 S0) w.toNatClampNeg else -1))) (mk S1) := by rw [if_pos c]; exact h
    refine G_istore_n (pc := 15) dX9_shortest_15 rfl (by decide) rfl ?_
    refine G_iload_n (pc := 16) dX9_shortest_16 rfl rfl ?_
    refine T_if_eq (pc := 17) (tgt := 24) dX9_shortest_17 (by decide) (fun c17 => ?_) (fun c17 => absurd c17 (by decide))
    refine G_aload_n (pc := 24) dX9_shortest_24 rfl rfl ?_
    refine S_getR (pc := 25) (b := 6) dX9_shortest_25 fX9_34 rfl rfl (by first | rfl | assumption) rfl rfl ?_
    refine S_getR (pc := 28) (b := 21) dX9_shortest_28 fX9_163 rfl rfl (by first | rfl | assumption) rfl rfl ?_
    refine G_iconst (pc := 31) (v := nI 0) dX9_shortest_31 (by decide) ?_
    refine N_aald (pc := 32) (t := 4) (n := 64) (b := 22) dX9_shortest_32 (by first | rfl | assumption) (by first | rfl | assumption) (by decide) (by omega) rfl ?_
    refine G_iload_n (pc := 33) dX9_shortest_33 rfl rfl ?_
    refine S_callV (av := [_]) (pc := 34) (z := mX3_told) (ci := 2) dX9_shortest_34 zX3_told lX9_shortest_166 rfl (by first | rfl | assumption) rfl rfl (sX3_told hk (nr_22 w3.nr q2) (nr0_ok hi q q2).2.1 ⟨_, rfl, ?_⟩)
    refine S_iret (pc := 37) dX9_shortest_37 rfl ?_
    exact h
  · have h := h S FrN.rf hF
    rw [if_neg c] at h
    refine G_iload_n (pc := 0) dX9_shortest_0 rfl rfl ?_
    refine T_if_lt (pc := 1) (tgt := 9) dX9_shortest_1 (by decide) (fun c1 => ?_) (fun c1 => ?_)
    · skip
      refine G_iconst (pc := 9) (v := (-1)) dX9_shortest_9 (by decide) ?_
      refine S_iret (pc := 10) dX9_shortest_10 rfl ?_
      exact h
    · skip
      refine G_iload_n (pc := 4) dX9_shortest_4 rfl rfl ?_
      refine G_iconst (pc := 5) (v := nI 4) dX9_shortest_5 (by decide) ?_
      refine T_icmp_le (pc := 6) (tgt := 11) dX9_shortest_6 (by decide) (fun c6 => absurd c6 (by omega)) (fun c6 => ?_)
      refine G_iconst (pc := 9) (v := (-1)) dX9_shortest_9 (by decide) ?_
      refine S_iret (pc := 10) dX9_shortest_10 rfl ?_
      exact h
set_option maxRecDepth 100000 in
set_option maxHeartbeats 4000000 in
theorem sX9_paper {S0 : ST} {t i : Int32} (hi : MI0 S0) (hC : CTh S0 S) (hF : CIf S0 S) (h : ∀ S', FrN quX quA S S' → S'.1 0 6 = S.1 0 6 → CIf S0 S' → Q (some (aI (sp_paper S0 t i))) (mk S')) : CT sc mX9_paper [aR 0, aI t, aI i] (mk S) Q := by
  refine S_of (by decide) rfl ?_
  show G sc mX9_paper 0 [some (aR 0), some (aI t), some (aI i), none] [] (mk S) Q
  obtain ⟨ha, hb, he, h4⟩ := id hi
  have hth := thB ha
  have zm : (-1 : Int32).toInt = -1 := rfl
  unfold sp_paper at h
  have bad : ¬ (isTh (thN S0) t = true ∧ -1 ≤ i.toInt) → Q (some (aI (-1))) (mk S) := fun q => by
    have := h S FrN.rf rfl hF
    rw [if_neg q] at this
    exact this
  rcases hT : isTh (thN S0) t with _ | _
  · skip
    refine G_aload_n (pc := 0) dX9_paper_0 rfl rfl ?_
    refine G_iload_n (pc := 1) dX9_paper_1 rfl rfl ?_
    refine S_callV (av := [_]) (pc := 2) (z := mX9_isThing) (ci := 8) dX9_paper_2 zX9_isThing lX9_paper_122 rfl (by first | rfl | assumption) rfl rfl (sX9_isThing hC.1 (by omega) ⟨_, rfl, ?_⟩)
    rw [hT]
    refine B_if_eq (pc := 5) (tgt := 13) dX9_paper_5 (by decide) (fun c5 => ?_) (fun c5 => absurd c5 (by decide))
    refine G_iconst (pc := 13) (v := (-1)) dX9_paper_13 (by decide) ?_
    refine S_iret (pc := 14) dX9_paper_14 rfl ?_
    exact bad (by simp [hT])
  · by_cases hi1 : -1 ≤ i.toInt
    · obtain ⟨u, rfl, hu, hu2⟩ := isTh_k hT (by omega)
      have hKt := ThK_t u (by omega)
      obtain ⟨y1, y2, y3, y4⟩ := ha.2 u hu
      rw [if_pos ⟨hT, hi1⟩, hu2] at h
      refine G_aload_n (pc := 0) dX9_paper_0 rfl rfl ?_
      refine G_iload_n (pc := 1) dX9_paper_1 rfl rfl ?_
      refine S_callV (av := [_]) (pc := 2) (z := mX9_isThing) (ci := 8) dX9_paper_2 zX9_isThing lX9_paper_122 rfl (by first | rfl | assumption) rfl rfl (sX9_isThing hC.1 (by omega) ⟨_, rfl, ?_⟩)
      rw [hT]
      refine B_if_eq (pc := 5) (tgt := 13) dX9_paper_5 (by decide) (fun c5 => absurd c5 (by decide)) (fun c5 => ?_)
      refine G_iload_n (pc := 8) dX9_paper_8 rfl rfl ?_
      refine G_iconst (pc := 9) (v := (-1)) dX9_paper_9 (by decide) ?_
      refine T_icmp_ge (pc := 10) (tgt := 15) dX9_paper_10 (by decide) (fun c10 => ?_) (fun c10 => absurd c10 (by omega))
      refine G_aload_n (pc := 15) dX9_paper_15 rfl rfl ?_
      refine S_callV (av := []) (pc := 16) (z := mX9_fitRefusal) (ci := 8) dX9_paper_16 zX9_fitRefusal lX9_paper_156 rfl (by first | rfl | assumption) rfl rfl (fitR hi hC hF (fun q => ⟨_, rfl, ?_⟩) (fun q q2 S1 w1 w2 => ⟨_, rfl, ?_⟩) (fun q q2 S1 w1 w2 w3 => ⟨_, rfl, ?_⟩))
      · skip
        have h := h S FrN.rf rfl hF
        rw [lackS_2 q] at h
        refine G_istore_n (pc := 19) dX9_paper_19 rfl (by decide) rfl ?_
        refine G_iload_n (pc := 20) dX9_paper_20 rfl rfl ?_
        refine T_if_eq (pc := 21) (tgt := 26) dX9_paper_21 (by decide) (fun c21 => absurd c21 (by decide)) (fun c21 => ?_)
        refine G_iload_n (pc := 24) dX9_paper_24 rfl rfl ?_
        refine S_iret (pc := 25) dX9_paper_25 rfl ?_
        exact h
      · skip
        have h := h S1 (qu_fq w1) (w1.1 0 6 (by omega)) w2
        rw [lackS_4 q q2] at h
        refine G_istore_n (pc := 19) dX9_paper_19 rfl (by decide) rfl ?_
        refine G_iload_n (pc := 20) dX9_paper_20 rfl rfl ?_
        refine T_if_eq (pc := 21) (tgt := 26) dX9_paper_21 (by decide) (fun c21 => absurd c21 (by decide)) (fun c21 => ?_)
        refine G_iload_n (pc := 24) dX9_paper_24 rfl rfl ?_
        refine S_iret (pc := 25) dX9_paper_25 rfl ?_
        exact h
      have hk := PgK_n 0 (by omega)
      have hC1 := hC.fq w1
      have hc := (hC1.2 u (by omega)).1 hu
      have hok := nr0_ok hi q q2
      refine G_istore_n (pc := 19) dX9_paper_19 rfl (by decide) rfl ?_
      refine G_iload_n (pc := 20) dX9_paper_20 rfl rfl ?_
      refine T_if_eq (pc := 21) (tgt := 26) dX9_paper_21 (by decide) (fun c21 => ?_) (fun c21 => absurd c21 (by decide))
      refine G_aload_n (pc := 26) dX9_paper_26 rfl rfl ?_
      refine S_getR (pc := 27) (b := 6) dX9_paper_27 fX9_34 rfl rfl (by first | rfl | assumption) rfl rfl ?_
      refine S_getR (pc := 30) (b := 21) dX9_paper_30 fX9_163 rfl rfl (by first | rfl | assumption) rfl rfl ?_
      refine G_iconst (pc := 33) (v := nI 0) dX9_paper_33 (by decide) ?_
      refine N_aald (pc := 34) (t := 4) (n := 64) (b := 22) dX9_paper_34 (by first | rfl | assumption) (by first | rfl | assumption) (by decide) (by omega) rfl ?_
      refine G_aload_n (pc := 35) dX9_paper_35 rfl rfl ?_
      refine S_getR (pc := 36) (b := 5) dX9_paper_36 fX9_23 rfl rfl (by first | rfl | assumption) rfl rfl ?_
      refine G_iload_n (pc := 39) dX9_paper_39 rfl rfl ?_
      refine N_aald (pc := 40) (t := 3) (n := 12) (b := 289 + 7 * u) dX9_paper_40 (by first | rfl | assumption) (by first | rfl | assumption) (by decide) (by omega) rfl ?_
      refine G_aload_n (pc := 41) dX9_paper_41 rfl rfl ?_
      refine S_getR (pc := 42) (b := 3) dX9_paper_42 fX9_18 rfl rfl (by first | rfl | assumption) rfl rfl ?_
      refine S_callV (av := [_, _]) (pc := 45) (z := mX3_makeOf) (ci := 2) dX9_paper_45 zX3_makeOf lX9_paper_167 rfl (by first | rfl | assumption) rfl rfl (sX3_makeOf hk hKt RwK_s (by omega) (Or.inr (by omega)) y3 y4 (nr_22 w3.nr q2) hok.1 (nr0_b hi q q2) hc.1 hc.2.1 (fun S2 l x1 x2 x3 => ⟨_, rfl, ?_⟩) (fun x1 S2 x2 x3 => ⟨_, rfl, ?_⟩))
      · skip
        have x2 : Fr scX scA S1 S2 := x2
        have h := h S2 ((qu_fq w1).tr (qu_sc x2)) ((x2.1 0 6 (by omega)).trans (w1.1 0 6 (by omega))) (w2.sc1 hth x2)
        rw [lackS_0 q q2] at h
        unfold outV at h
        rw [x1] at h
        have hl := runP_len35 hok y3 x1
        refine B_if_eq (pc := 48) (tgt := 62) dX9_paper_48 (by decide) (fun c48 => absurd c48 (by decide)) (fun c48 => ?_)
        refine G_aload_n (pc := 51) dX9_paper_51 rfl rfl ?_
        refine S_getR (pc := 52) (b := 3) dX9_paper_52 fX9_18 rfl rfl (by first | rfl | assumption) rfl rfl ?_
        refine G_iload_n (pc := 55) dX9_paper_55 rfl rfl ?_
        refine S_callV (av := [_]) (pc := 56) (z := mX4_told) (ci := 3) dX9_paper_56 zX4_told lX9_paper_128 rfl (by first | rfl | assumption) rfl rfl (sX4_told RwK_s x3 hl ⟨_, rfl, ?_⟩)
        rw [tldR_ge hi1]
        refine G_goto (pc := 59) (tgt := 64) dX9_paper_59 (by decide) ?_
        refine S_iret (pc := 64) dX9_paper_64 rfl ?_
        exact h
      have x2 : Fr scX scA S1 S2 := x2
      have h := h S2 ((qu_fq w1).tr (qu_sc x2)) ((x2.1 0 6 (by omega)).trans (w1.1 0 6 (by omega))) (w2.sc1 hth x2)
      rw [lackS_0 q q2] at h
      unfold outV at h
      rw [x1] at h
      refine B_if_eq (pc := 48) (tgt := 62) dX9_paper_48 (by decide) (fun c48 => ?_) (fun c48 => absurd c48 (by decide))
      refine G_bipush (pc := 62) (v := (-4)) dX9_paper_62 (by decide) ?_
      refine S_iret (pc := 64) dX9_paper_64 rfl ?_
      exact h
    · skip
      refine G_aload_n (pc := 0) dX9_paper_0 rfl rfl ?_
      refine G_iload_n (pc := 1) dX9_paper_1 rfl rfl ?_
      refine S_callV (av := [_]) (pc := 2) (z := mX9_isThing) (ci := 8) dX9_paper_2 zX9_isThing lX9_paper_122 rfl (by first | rfl | assumption) rfl rfl (sX9_isThing hC.1 (by omega) ⟨_, rfl, ?_⟩)
      rw [hT]
      refine B_if_eq (pc := 5) (tgt := 13) dX9_paper_5 (by decide) (fun c5 => absurd c5 (by decide)) (fun c5 => ?_)
      refine G_iload_n (pc := 8) dX9_paper_8 rfl rfl ?_
      refine G_iconst (pc := 9) (v := (-1)) dX9_paper_9 (by decide) ?_
      refine T_icmp_ge (pc := 10) (tgt := 15) dX9_paper_10 (by decide) (fun c10 => absurd c10 (by omega)) (fun c10 => ?_)
      refine G_iconst (pc := 13) (v := (-1)) dX9_paper_13 (by decide) ?_
      refine S_iret (pc := 14) dX9_paper_14 rfl ?_
      exact bad (fun q => hi1 q.2)
set_option maxRecDepth 100000 in
set_option maxHeartbeats 4000000 in
theorem sX9_odd {S0 : ST} {t : Int32} (hi : MI0 S0) (hC : CTh S0 S) (hF : CIf S0 S) (h : ∀ S', FrN quX quA S S' → S'.1 0 6 = S.1 0 6 → CIf S0 S' → Q (some (aI (sp_odd S0 t))) (mk S')) : CT sc mX9_odd [aR 0, aI t] (mk S) Q := by
  refine S_of (by decide) rfl ?_
  show G sc mX9_odd 0 [some (aR 0), some (aI t), none] [] (mk S) Q
  obtain ⟨ha, hb, he, h4⟩ := id hi
  have hth := thB ha
  unfold sp_odd at h
  rcases hT : isTh (thN S0) t with _ | _
  · have h := h S FrN.rf rfl hF
    rw [if_neg (by simp [hT])] at h
    refine G_aload_n (pc := 0) dX9_odd_0 rfl rfl ?_
    refine G_iload_n (pc := 1) dX9_odd_1 rfl rfl ?_
    refine S_callV (av := [_]) (pc := 2) (z := mX9_isThing) (ci := 8) dX9_odd_2 zX9_isThing lX9_odd_122 rfl (by first | rfl | assumption) rfl rfl (sX9_isThing hC.1 (by omega) ⟨_, rfl, ?_⟩)
    rw [hT]
    refine B_if_ne (pc := 5) (tgt := 10) dX9_odd_5 (by decide) (fun c5 => absurd c5 (by decide)) (fun c5 => ?_)
    refine G_iconst (pc := 8) (v := (-1)) dX9_odd_8 (by decide) ?_
    refine S_iret (pc := 9) dX9_odd_9 rfl ?_
    exact h
  · obtain ⟨u, rfl, hu, hu2⟩ := isTh_k hT (by omega)
    rw [if_pos hT, hu2] at h
    refine G_aload_n (pc := 0) dX9_odd_0 rfl rfl ?_
    refine G_iload_n (pc := 1) dX9_odd_1 rfl rfl ?_
    refine S_callV (av := [_]) (pc := 2) (z := mX9_isThing) (ci := 8) dX9_odd_2 zX9_isThing lX9_odd_122 rfl (by first | rfl | assumption) rfl rfl (sX9_isThing hC.1 (by omega) ⟨_, rfl, ?_⟩)
    rw [hT]
    refine B_if_ne (pc := 5) (tgt := 10) dX9_odd_5 (by decide) (fun c5 => ?_) (fun c5 => absurd c5 (by decide))
    refine G_aload_n (pc := 10) dX9_odd_10 rfl rfl ?_
    refine S_callV (av := []) (pc := 11) (z := mX9_fitRefusal) (ci := 8) dX9_odd_11 zX9_fitRefusal lX9_odd_156 rfl (by first | rfl | assumption) rfl rfl (fitR hi hC hF (fun q => ⟨_, rfl, ?_⟩) (fun q q2 S1 w1 w2 => ⟨_, rfl, ?_⟩) (fun q q2 S1 w1 w2 w3 => ⟨_, rfl, ?_⟩))
    · skip
      have h := h S FrN.rf rfl hF
      rw [lackS_2 q] at h
      refine G_istore_n (pc := 14) dX9_odd_14 rfl (by decide) rfl ?_
      refine G_iload_n (pc := 15) dX9_odd_15 rfl rfl ?_
      refine T_if_eq (pc := 16) (tgt := 21) dX9_odd_16 (by decide) (fun c16 => absurd c16 (by decide)) (fun c16 => ?_)
      refine G_iload_n (pc := 19) dX9_odd_19 rfl rfl ?_
      refine S_iret (pc := 20) dX9_odd_20 rfl ?_
      exact h
    · skip
      have h := h S1 (qu_fq w1) (w1.1 0 6 (by omega)) w2
      rw [lackS_4 q q2] at h
      refine G_istore_n (pc := 14) dX9_odd_14 rfl (by decide) rfl ?_
      refine G_iload_n (pc := 15) dX9_odd_15 rfl rfl ?_
      refine T_if_eq (pc := 16) (tgt := 21) dX9_odd_16 (by decide) (fun c16 => absurd c16 (by decide)) (fun c16 => ?_)
      refine G_iload_n (pc := 19) dX9_odd_19 rfl rfl ?_
      refine S_iret (pc := 20) dX9_odd_20 rfl ?_
      exact h
    have hC1 := hC.fq w1
    have hcu := (hC1.2 u (by omega)).1 hu
    have fin : ∀ S2 b, Fr scX scA S1 S2 → oddB S0 u (nr0 S0) = b → Q (some (aI (bI b))) (mk S2) := fun S2 b x2 e => by
      have h := h S2 ((qu_fq w1).tr (qu_sc x2)) ((x2.1 0 6 (by omega)).trans (w1.1 0 6 (by omega))) (w2.sc1 hth x2)
      rw [lackS_0 q q2, e] at h
      exact h
    refine G_istore_n (pc := 14) dX9_odd_14 rfl (by decide) rfl ?_
    refine G_iload_n (pc := 15) dX9_odd_15 rfl rfl ?_
    refine T_if_eq (pc := 16) (tgt := 21) dX9_odd_16 (by decide) (fun c16 => ?_) (fun c16 => absurd c16 (by decide))
    refine G_aload_n (pc := 21) dX9_odd_21 rfl rfl ?_
    refine G_aload_n (pc := 22) dX9_odd_22 rfl rfl ?_
    refine S_getR (pc := 23) (b := 5) dX9_odd_23 fX9_23 rfl rfl (by first | rfl | assumption) rfl rfl ?_
    refine G_iload_n (pc := 26) dX9_odd_26 rfl rfl ?_
    refine N_aald (pc := 27) (t := 3) (n := 12) (b := 289 + 7 * u) dX9_odd_27 (by first | rfl | assumption) (by first | rfl | assumption) (by decide) (by omega) rfl ?_
    refine S_callV (av := [_]) (pc := 28) (z := mX9_makesOddEnd) (ci := 8) dX9_odd_28 zX9_makesOddEnd lX9_odd_181 rfl (by first | rfl | assumption) rfl rfl (sX9_makesOddEnd ha hb hu (hC1.w hb hth) hcu.1 hcu.2.1 (nr_22 w3.nr q2) (nr0_ok hi q q2) (nr0_b hi q q2) (fun x1 S2 x2 => ⟨_, rfl, ?_⟩) (fun l x1 S2 x2 x3 => ⟨_, rfl, ?_⟩))
    · skip
      have h := fin S2 true x2 (by unfold oddB; rw [x1])
      refine B_if_eq (pc := 31) (tgt := 38) dX9_odd_31 (by decide) (fun c31 => absurd c31 (by decide)) (fun c31 => ?_)
      refine G_iconst (pc := 34) (v := nI 1) dX9_odd_34 (by decide) ?_
      refine G_goto (pc := 35) (tgt := 39) dX9_odd_35 (by decide) ?_
      refine S_iret (pc := 39) dX9_odd_39 rfl ?_
      exact h
    have h := fin S2 (!knF S0 (shp (fun i => l.getD i 0) l.length) (thN S0)) x2 (by unfold oddB; rw [x1])
    refine B_if_eq (pc := 31) (tgt := 38) dX9_odd_31 (by decide) (fun c31 => ?_) (fun c31 => ?_)
    · skip
      rw [c31] at h
      refine G_iconst (pc := 38) (v := nI 0) dX9_odd_38 (by decide) ?_
      refine S_iret (pc := 39) dX9_odd_39 rfl ?_
      exact h
    · skip
      rw [c31] at h
      refine G_iconst (pc := 34) (v := nI 1) dX9_odd_34 (by decide) ?_
      refine G_goto (pc := 35) (tgt := 39) dX9_odd_35 (by decide) ?_
      refine S_iret (pc := 39) dX9_odd_39 rfl ?_
      exact h
end C25
