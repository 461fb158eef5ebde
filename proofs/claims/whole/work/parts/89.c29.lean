/-! the class: sheets -/
theorem ShK_t : ∀ k, k < 4 → kd (381 + 2 * k) = (4, 0) ∧ kd (381 + 2 * k + 1) = (10, 20) := by decide
/-- sheets -/
def CS1 (S0 S : ST) (k : Nat) : Prop := S.1 (381 + 2 * k) 2 = S0.2.1 410 k ∧ (0 ≤ (S0.2.1 410 k).toInt → S.1 (381 + 2 * k) 1 = S0.2.1 411 k) ∧ ∀ i, i < 20 → S.2.1 (381 + 2 * k + 1) i = S0.2.1 412 (20 * k + i)
def CSh (S0 S : ST) : Prop := ∀ k, k < 4 → CS1 S0 S k
theorem sh8 (v : Int32) : v.toInt8.toInt32 = (v <<< (nI 24 &&& 31)) >>> (nI 24 &&& 31) := by
  apply Int32.toBitVec_inj.1
  show (v.toBitVec.signExtend 8).signExtend 32 = (v.toBitVec <<< 24).sshiftRight 24
  rw [BitVec.signExtend_eq_setWidth_of_le v.toBitVec (show 8 ≤ 32 by decide)]
  apply BitVec.eq_of_getLsbD_eq
  intro j hj
  rw [BitVec.getLsbD_signExtend, BitVec.getLsbD_sshiftRight]
  by_cases h : j < 8
  · have h1 : 24 + j < 32 := by omega
    have h2 : ¬ 24 + j < 24 := by omega
    simp [h, hj, h1, BitVec.getLsbD_setWidth, BitVec.getLsbD_shiftLeft]
    rw [decide_eq_false (show ¬ 32 ≤ j by omega), decide_eq_false (show ¬ 24 + j < 24 by omega)]
    rfl
  · have h1 : ¬ 24 + j < 32 := by omega
    simp [h, hj, h1, BitVec.msb_eq_getLsbD_last, BitVec.getLsbD_setWidth, BitVec.getLsbD_shiftLeft]
    try omega
theorem sh16 (v : Int32) : v.toInt16.toInt32 = (v <<< (nI 16 &&& 31)) >>> (nI 16 &&& 31) := by
  apply Int32.toBitVec_inj.1
  show (v.toBitVec.signExtend 16).signExtend 32 = (v.toBitVec <<< 16).sshiftRight 16
  rw [BitVec.signExtend_eq_setWidth_of_le v.toBitVec (show 16 ≤ 32 by decide)]
  apply BitVec.eq_of_getLsbD_eq
  intro j hj
  rw [BitVec.getLsbD_signExtend, BitVec.getLsbD_sshiftRight]
  by_cases h : j < 16
  · have h1 : 16 + j < 32 := by omega
    simp [h, hj, h1, BitVec.getLsbD_setWidth, BitVec.getLsbD_shiftLeft]
    rw [decide_eq_false (show ¬ 32 ≤ j by omega), decide_eq_false (show ¬ 16 + j < 16 by omega)]
    rfl
  · have h1 : ¬ 16 + j < 32 := by omega
    simp [h, hj, h1, BitVec.msb_eq_getLsbD_last, BitVec.getLsbD_setWidth, BitVec.getLsbD_shiftLeft]
    try omega
section C29
variable {sc : SC} {S : ST} {Q : Option AV → HM → Prop}
set_option maxRecDepth 100000 in
set_option maxHeartbeats 4000000 in
theorem sX5_isThere {k : Nat} {v : Int32} (hk : k < 4) (hv : S.1 (381 + 2 * k) 2 = v) (h : Q (some (aI (bI (decide (¬ v.toInt = -1))))) (mk S)) : CT sc mX5_isThere [aR (381 + 2 * k)] (mk S) Q := by
  refine S_of (by decide) rfl ?_
  show G sc mX5_isThere 0 [some (aR (381 + 2 * k))] [] (mk S) Q
  obtain ⟨k1, k2⟩ := ShK_t k hk
  have zm : (-1 : Int32).toInt = -1 := rfl
  refine G_aload_n (pc := 0) dX5_isThere_0 rfl rfl ?_
  refine S_getI (pc := 1) dX5_isThere_1 fX5_19 rfl (by first | rfl | assumption) rfl ?_
  rw [hv]
  refine G_iconst (pc := 4) (v := (-1)) dX5_isThere_4 (by decide) ?_
  refine T_icmp_eq (pc := 5) (tgt := 12) dX5_isThere_5 (by decide) (fun c5 => ?_) (fun c5 => ?_)
  · skip
    rw [zm] at c5
    refine G_iconst (pc := 12) (v := nI 0) dX5_isThere_12 (by decide) ?_
    refine S_zret (pc := 13) dX5_isThere_13 rfl rfl ?_
    exact q_i h (by first | exact z_f (decide_eq_false (fun q => q c5)) | exact z_t (decide_eq_true c5))
  · skip
    rw [zm] at c5
    refine G_iconst (pc := 8) (v := nI 1) dX5_isThere_8 (by decide) ?_
    refine G_goto (pc := 9) (tgt := 13) dX5_isThere_9 (by decide) ?_
    refine S_zret (pc := 13) dX5_isThere_13 rfl rfl ?_
    exact q_i h (by first | exact z_f (decide_eq_false (fun q => q c5)) | exact z_t (decide_eq_true c5))
abbrev reX (k : Nat) (a j : Nat) : Prop := a = 381 + 2 * k ∧ (j = 1 ∨ j = 2)
abbrev reA (k : Nat) (a : Nat) : Prop := a = 381 + 2 * k + 1
set_option maxRecDepth 100000 in
set_option maxHeartbeats 4000000 in
theorem sX5_renew {k : Nat} {l n : Int32} (hk : k < 4) (h : ∀ S', Fr (reX k) (reA k) S S' → S'.1 (381 + 2 * k) 2 = l → S'.1 (381 + 2 * k) 1 = n → (∀ j, j < 20 → S'.2.1 (381 + 2 * k + 1) j = nI 0) → Q none (mk S')) : CT sc mX5_renew [aR (381 + 2 * k), aI l, aI n] (mk S) Q := by
  refine S_of (by decide) rfl ?_
  show G sc mX5_renew 0 [some (aR (381 + 2 * k)), some (aI l), some (aI n)] [] (mk S) Q
  obtain ⟨k1, k2⟩ := ShK_t k hk
  refine G_aload_n (pc := 0) dX5_renew_0 rfl rfl ?_
  refine G_iload_n (pc := 1) dX5_renew_1 rfl rfl ?_
  refine S_putI (pc := 2) dX5_renew_2 fX5_19 (by decide) rfl (by first | rfl | assumption) rfl ?_
  refine G_aload_n (pc := 5) dX5_renew_5 rfl rfl ?_
  refine G_iload_n (pc := 6) dX5_renew_6 rfl rfl ?_
  refine S_putI (pc := 7) dX5_renew_7 fX5_15 (by decide) rfl (by first | rfl | assumption) rfl ?_
  refine G_aload_n (pc := 10) dX5_renew_10 rfl rfl ?_
  refine S_getR (pc := 11) (b := 381 + 2 * k + 1) dX5_renew_11 fX5_9 rfl rfl (by first | rfl | assumption) rfl rfl ?_
  refine G_iconst (pc := 14) (v := nI 0) dX5_renew_14 (by decide) ?_
  refine S_callS (av := [_, _]) (pc := 15) (z := mJ7_fill_53178) dX5_renew_15 zJ7_fill_53178 lX5_renew_22 rfl (fillI k2 rfl (fun S1 w1 w2 => ⟨_, rfl, ?_⟩))
  refine S_vret (pc := 18) dX5_renew_18 rfl ?_
  have g1 : Fr (reX k) (reA k) S (upX (upX S (381 + 2 * k) 2 l) (381 + 2 * k) 1 n) := Fr.tr (Fr.upX ⟨rfl, Or.inr rfl⟩) (Fr.upX ⟨rfl, Or.inl rfl⟩)
  exact h S1 (g1.tr (w1.mono (fun a j q => q.elim) (fun a q => q))) (by rw [w1.1 _ _ (by simp), upX_n (by omega), upX_s]) (by rw [w1.1 _ _ (by simp), upX_s]) w2
set_option maxRecDepth 100000 in
set_option maxHeartbeats 4000000 in
theorem sX5_vanish {k : Nat} (hk : k < 4) (h : Q none (mk (upX (upX S (381 + 2 * k) 2 (-1)) (381 + 2 * k) 1 (nI 0)))) : CT sc mX5_vanish [aR (381 + 2 * k)] (mk S) Q := by
  refine S_of (by decide) rfl ?_
  show G sc mX5_vanish 0 [some (aR (381 + 2 * k))] [] (mk S) Q
  obtain ⟨k1, k2⟩ := ShK_t k hk
  refine G_aload_n (pc := 0) dX5_vanish_0 rfl rfl ?_
  refine G_iconst (pc := 1) (v := (-1)) dX5_vanish_1 (by decide) ?_
  refine S_putI (pc := 2) dX5_vanish_2 fX5_19 (by decide) rfl (by first | rfl | assumption) rfl ?_
  refine G_aload_n (pc := 5) dX5_vanish_5 rfl rfl ?_
  refine G_iconst (pc := 6) (v := nI 0) dX5_vanish_6 (by decide) ?_
  refine S_putI (pc := 7) dX5_vanish_7 fX5_15 (by decide) rfl (by first | rfl | assumption) rfl ?_
  refine S_vret (pc := 10) dX5_vanish_10 rfl ?_
  exact h
set_option maxRecDepth 100000 in
set_option maxHeartbeats 4000000 in
theorem sX5_refusalOf {k : Nat} {v l : Int32} (hk : k < 4) (hv : S.1 (381 + 2 * k) 2 = v) (hv2 : -1 ≤ v.toInt) (hl : 0 ≤ l.toInt) (h : Q (some (aI (lackV v l))) (mk S)) : CT sc mX5_refusalOf [aR (381 + 2 * k), aI l] (mk S) Q := by
  refine S_of (by decide) rfl ?_
  show G sc mX5_refusalOf 0 [some (aR (381 + 2 * k)), some (aI l)] [] (mk S) Q
  obtain ⟨k1, k2⟩ := ShK_t k hk
  have zm : (-1 : Int32).toInt = -1 := rfl
  unfold lackV at h
  refine G_aload_n (pc := 0) dX5_refusalOf_0 rfl rfl ?_
  refine S_getI (pc := 1) dX5_refusalOf_1 fX5_19 rfl (by first | rfl | assumption) rfl ?_
  rw [hv]
  refine G_iconst (pc := 4) (v := (-1)) dX5_refusalOf_4 (by decide) ?_
  refine T_icmp_ne (pc := 5) (tgt := 11) dX5_refusalOf_5 (by decide) (fun c5 => ?_) (fun c5 => ?_)
  · skip
    rw [zm] at c5
    refine G_aload_n (pc := 11) dX5_refusalOf_11 rfl rfl ?_
    refine S_getI (pc := 12) dX5_refusalOf_12 fX5_19 rfl (by first | rfl | assumption) rfl ?_
    rw [hv]
    refine G_iload_n (pc := 15) dX5_refusalOf_15 rfl rfl ?_
    refine T_icmp_ne (pc := 16) (tgt := 23) dX5_refusalOf_16 (by decide) (fun c16 => ?_) (fun c16 => ?_)
    · skip
      rw [if_neg c16, if_pos (by omega)] at h
      refine G_bipush (pc := 23) (v := (-12)) dX5_refusalOf_23 (by decide) ?_
      refine S_iret (pc := 25) dX5_refusalOf_25 rfl ?_
      exact h
    · skip
      rw [if_pos c16] at h
      refine G_iconst (pc := 19) (v := nI 0) dX5_refusalOf_19 (by decide) ?_
      refine G_goto (pc := 20) (tgt := 25) dX5_refusalOf_20 (by decide) ?_
      refine S_iret (pc := 25) dX5_refusalOf_25 rfl ?_
      exact h
  · skip
    rw [zm] at c5
    rw [if_neg (by omega), if_neg (by omega)] at h
    refine G_bipush (pc := 8) (v := (-11)) dX5_refusalOf_8 (by decide) ?_
    refine S_iret (pc := 10) dX5_refusalOf_10 rfl ?_
    exact h
set_option maxRecDepth 100000 in
set_option maxHeartbeats 4000000 in
theorem sX5_holds {k z m : Nat} {f : Int32} (hk : k < 4) (hz : S.1 (381 + 2 * k) 1 = nI z) (hz2 : z ≤ 20) (hm : m ≤ 100) (h : Q (some (aI (bI (decide (0 ≤ f.toInt ∧ f.toInt ≤ (z : Int) - m))))) (mk S)) : CT sc mX5_holds [aR (381 + 2 * k), aI f, aI (nI m)] (mk S) Q := by
  refine S_of (by decide) rfl ?_
  show G sc mX5_holds 0 [some (aR (381 + 2 * k)), some (aI f), some (aI (nI m))] [] (mk S) Q
  obtain ⟨k1, k2⟩ := ShK_t k hk
  have e : (nI z - nI m).toInt = (z : Int) - m := by
    rw [sub_toInt (by rw [nIt (by omega), nIt (by omega)]; omega) (by rw [nIt (by omega), nIt (by omega)]; omega), nIt (by omega), nIt (by omega)]
  refine G_iload_n (pc := 0) dX5_holds_0 rfl rfl ?_
  refine T_if_lt (pc := 1) (tgt := 18) dX5_holds_1 (by decide) (fun c1 => ?_) (fun c1 => ?_)
  · skip
    refine G_iconst (pc := 18) (v := nI 0) dX5_holds_18 (by decide) ?_
    refine S_zret (pc := 19) dX5_holds_19 rfl rfl ?_
    exact q_i h (by first | exact z_f (decide_eq_false (by omega)) | exact z_t (decide_eq_true (by omega)))
  · skip
    refine G_iload_n (pc := 4) dX5_holds_4 rfl rfl ?_
    refine G_aload_n (pc := 5) dX5_holds_5 rfl rfl ?_
    refine S_getI (pc := 6) dX5_holds_6 fX5_15 rfl (by first | rfl | assumption) rfl ?_
    rw [hz]
    refine G_iload_n (pc := 9) dX5_holds_9 rfl rfl ?_
    refine G_isub (pc := 10) dX5_holds_10 ?_
    refine T_icmp_gt (pc := 11) (tgt := 18) dX5_holds_11 (by decide) (fun c11 => ?_) (fun c11 => ?_)
    · skip
      rw [e] at c11
      refine G_iconst (pc := 18) (v := nI 0) dX5_holds_18 (by decide) ?_
      refine S_zret (pc := 19) dX5_holds_19 rfl rfl ?_
      exact q_i h (by first | exact z_f (decide_eq_false (by omega)) | exact z_t (decide_eq_true (by omega)))
    · skip
      rw [e] at c11
      refine G_iconst (pc := 14) (v := nI 1) dX5_holds_14 (by decide) ?_
      refine G_goto (pc := 15) (tgt := 19) dX5_holds_15 (by decide) ?_
      refine S_zret (pc := 19) dX5_holds_19 rfl rfl ?_
      exact q_i h (by first | exact z_f (decide_eq_false (by omega)) | exact z_t (decide_eq_true (by omega)))
set_option maxRecDepth 100000 in
set_option maxHeartbeats 4000000 in
theorem sX5_write {k l i : Nat} {v : Int32} (hk : k < 4) (hl : S.1 (381 + 2 * k) 2 = nI l) (hl2 : l ≤ 2) (hi : i < 20) (h : Q none (mk (upI S (381 + 2 * k + 1) i (laneV l v)))) : CT sc mX5_write [aR (381 + 2 * k), aI (nI i), aI v] (mk S) Q := by
  refine S_of (by decide) rfl ?_
  show G sc mX5_write 0 [some (aR (381 + 2 * k)), some (aI (nI i)), some (aI v)] [] (mk S) Q
  obtain ⟨k1, k2⟩ := ShK_t k hk
  unfold laneV at h
  refine G_aload_n (pc := 0) dX5_write_0 rfl rfl ?_
  refine S_getI (pc := 1) dX5_write_1 fX5_19 rfl (by first | rfl | assumption) rfl ?_
  rw [hl]
  refine N_if_ne (pc := 4) (tgt := 18) dX5_write_4 (by decide) (by omega) (fun c4 => ?_) (fun c4 => ?_)
  · skip
    rw [if_neg c4] at h
    refine G_aload_n (pc := 18) dX5_write_18 rfl rfl ?_
    refine S_getI (pc := 19) dX5_write_19 fX5_19 rfl (by first | rfl | assumption) rfl ?_
    rw [hl]
    refine G_iconst (pc := 22) (v := nI 1) dX5_write_22 (by decide) ?_
    refine N_icmp_ne (pc := 23) (tgt := 37) dX5_write_23 (by decide) (by omega) (fun c23 => ?_) (fun c23 => ?_)
    · skip
      rw [if_neg c23] at h
      refine G_aload_n (pc := 37) dX5_write_37 rfl rfl ?_
      refine S_getR (pc := 38) (b := 381 + 2 * k + 1) dX5_write_38 fX5_9 rfl rfl (by first | rfl | assumption) rfl rfl ?_
      refine G_iload_n (pc := 41) dX5_write_41 rfl rfl ?_
      refine G_iload_n (pc := 42) dX5_write_42 rfl rfl ?_
      refine N_iast (pc := 43) dX5_write_43 (by first | rfl | assumption) (by first | rfl | assumption) (by omega) ?_
      refine S_vret (pc := 44) dX5_write_44 rfl ?_
      exact h
    · skip
      rw [if_pos c23, ← sh16] at h
      refine G_aload_n (pc := 26) dX5_write_26 rfl rfl ?_
      refine S_getR (pc := 27) (b := 381 + 2 * k + 1) dX5_write_27 fX5_9 rfl rfl (by first | rfl | assumption) rfl rfl ?_
      refine G_iload_n (pc := 30) dX5_write_30 rfl rfl ?_
      refine G_iload_n (pc := 31) dX5_write_31 rfl rfl ?_
      refine G_i2s (pc := 32) dX5_write_32 ?_
      refine N_iast (pc := 33) dX5_write_33 (by first | rfl | assumption) (by first | rfl | assumption) (by omega) ?_
      refine G_goto (pc := 34) (tgt := 44) dX5_write_34 (by decide) ?_
      refine S_vret (pc := 44) dX5_write_44 rfl ?_
      exact h
  · skip
    rw [if_pos c4, ← sh8] at h
    refine G_aload_n (pc := 7) dX5_write_7 rfl rfl ?_
    refine S_getR (pc := 8) (b := 381 + 2 * k + 1) dX5_write_8 fX5_9 rfl rfl (by first | rfl | assumption) rfl rfl ?_
    refine G_iload_n (pc := 11) dX5_write_11 rfl rfl ?_
    refine G_iload_n (pc := 12) dX5_write_12 rfl rfl ?_
    refine G_i2b (pc := 13) dX5_write_13 ?_
    refine N_iast (pc := 14) dX5_write_14 (by first | rfl | assumption) (by first | rfl | assumption) (by omega) ?_
    refine G_goto (pc := 15) (tgt := 44) dX5_write_15 (by decide) ?_
    refine S_vret (pc := 44) dX5_write_44 rfl ?_
    exact h
theorem isShB_iff {s l : Int32} : isShB s l = true ↔ (0 ≤ s.toInt ∧ s.toInt ≤ 3) ∧ 0 ≤ l.toInt ∧ l.toInt ≤ 2 := decide_eq_true_iff
set_option maxRecDepth 100000 in
set_option maxHeartbeats 4000000 in
theorem sX9_sheet {s l n : Int32} (hbad : isShB s l = false ∨ 20 < n.toInt → Q (some (aI (-1))) (mk S)) (hsize : isShB s l = true → n.toInt < 0 → Q (some (aI (-14))) (mk S))
    (hok : ∀ k, s = nI k → k < 4 → isShB s l = true → 0 ≤ n.toInt → n.toInt ≤ 20 → ∀ S', Fr (reX k) (reA k) S S' → S'.1 (381 + 2 * k) 2 = l → S'.1 (381 + 2 * k) 1 = n → (∀ j, j < 20 → S'.2.1 (381 + 2 * k + 1) j = nI 0) → Q (some (aI n)) (mk S')) : CT sc mX9_sheet [aR 0, aI s, aI l, aI n] (mk S) Q := by
  refine S_of (by decide) rfl ?_
  show G sc mX9_sheet 0 [some (aR 0), some (aI s), some (aI l), some (aI n)] [] (mk S) Q
  have z20 : (nI 20).toInt = 20 := rfl
  have nb : ∀ p : Prop, ¬ p → (isShB s l = true → p) → isShB s l = false := fun p h1 h2 => by
    rcases e : isShB s l with _ | _
    · rfl
    · exact absurd (h2 e) h1
  refine G_iload_n (pc := 0) dX9_sheet_0 rfl rfl ?_
  refine S_callS (av := [_]) (pc := 1) (z := mX9_isSheet) dX9_sheet_1 zX9_isSheet lX9_sheet_105 rfl (sX9_isSheet ⟨_, rfl, ?_⟩)
  refine B_if_eq (pc := 4) (tgt := 20) dX9_sheet_4 (by decide) (fun c4 => ?_) (fun c4 => ?_)
  · skip
    rw [decide_eq_false_iff_not] at c4
    have hB := nb _ c4 (fun e => (isShB_iff.mp e).1)
    refine G_iconst (pc := 20) (v := (-1)) dX9_sheet_20 (by decide) ?_
    refine S_iret (pc := 21) dX9_sheet_21 rfl ?_
    first | exact hbad (Or.inl hB) | exact hbad (Or.inr (by omega))
  · skip
    refine G_iload_n (pc := 7) dX9_sheet_7 rfl rfl ?_
    refine S_callS (av := [_]) (pc := 8) (z := mX9_isLane) dX9_sheet_8 zX9_isLane lX9_sheet_108 rfl (sX9_isLane ⟨_, rfl, ?_⟩)
    refine B_if_eq (pc := 11) (tgt := 20) dX9_sheet_11 (by decide) (fun c11 => ?_) (fun c11 => ?_)
    · skip
      rw [decide_eq_false_iff_not] at c11
      have hB := nb _ c11 (fun e => (isShB_iff.mp e).2)
      refine G_iconst (pc := 20) (v := (-1)) dX9_sheet_20 (by decide) ?_
      refine S_iret (pc := 21) dX9_sheet_21 rfl ?_
      first | exact hbad (Or.inl hB) | exact hbad (Or.inr (by omega))
    · skip
      refine G_iload_n (pc := 14) dX9_sheet_14 rfl rfl ?_
      refine G_bipush (pc := 15) (v := nI 20) dX9_sheet_15 (by decide) ?_
      refine T_icmp_le (pc := 17) (tgt := 22) dX9_sheet_17 (by decide) (fun c17 => ?_) (fun c17 => ?_)
      · skip
        rw [z20] at c17
        rw [decide_eq_true_eq] at c4 c11
        have hT : isShB s l = true := isShB_iff.mpr ⟨c4, c11⟩
        have es : s = nI s.toInt.toNat := nI_ofT (by omega)
        have hok2 := hok s.toInt.toNat es (by omega) hT
        have hk : s.toInt.toNat < 4 := by omega
        generalize s.toInt.toNat = k at es hok2 hk
        subst es
        refine G_iload_n (pc := 22) dX9_sheet_22 rfl rfl ?_
        refine T_if_ge (pc := 23) (tgt := 29) dX9_sheet_23 (by decide) (fun c23 => ?_) (fun c23 => ?_)
        · skip
          refine G_aload_n (pc := 29) dX9_sheet_29 rfl rfl ?_
          refine S_getR (pc := 30) (b := 288) dX9_sheet_30 fX9_77 rfl rfl (by first | rfl | assumption) rfl rfl ?_
          refine G_iload_n (pc := 33) dX9_sheet_33 rfl rfl ?_
          refine N_aald (pc := 34) (t := 6) (n := 4) (b := 381 + 2 * k) dX9_sheet_34 (by first | rfl | assumption) (by first | rfl | assumption) (by decide) (by omega) rfl ?_
          refine G_iload_n (pc := 35) dX9_sheet_35 rfl rfl ?_
          refine G_iload_n (pc := 36) dX9_sheet_36 rfl rfl ?_
          refine S_callV (av := [_, _]) (pc := 37) (z := mX5_renew) (ci := 4) dX9_sheet_37 zX5_renew lX9_sheet_220 rfl (ShK_t k hk).1 rfl rfl (sX5_renew hk (fun S1 w1 w2 w3 w4 => ⟨_, rfl, ?_⟩))
          refine G_iload_n (pc := 40) dX9_sheet_40 rfl rfl ?_
          refine S_iret (pc := 41) dX9_sheet_41 rfl ?_
          exact hok2 c23 c17 S1 w1 w2 w3 w4
        · skip
          refine G_bipush (pc := 26) (v := (-14)) dX9_sheet_26 (by decide) ?_
          refine S_iret (pc := 28) dX9_sheet_28 rfl ?_
          exact hsize hT (by omega)
      · skip
        rw [z20] at c17
        refine G_iconst (pc := 20) (v := (-1)) dX9_sheet_20 (by decide) ?_
        refine S_iret (pc := 21) dX9_sheet_21 rfl ?_
        first | exact hbad (Or.inl hB) | exact hbad (Or.inr (by omega))
set_option maxRecDepth 100000 in
set_option maxHeartbeats 4000000 in
theorem sX9_drop {S0 : ST} {s : Int32} (hc : MIc S0) (hS : CSh S0 S) (hbad : ¬ (0 ≤ s.toInt ∧ s.toInt ≤ 3) → Q (some (aI (-1))) (mk S)) (hnull : 0 ≤ s.toInt ∧ s.toInt ≤ 3 → (S0.2.1 410 s.toNatClampNeg).toInt < 0 → Q (some (aI (-11))) (mk S))
    (hok : ∀ k, s = nI k → k < 4 → s.toNatClampNeg = k → 0 ≤ (S0.2.1 410 k).toInt → Q (some (aI (S0.2.1 411 k))) (mk (upX (upX S (381 + 2 * k) 2 (-1)) (381 + 2 * k) 1 (nI 0)))) : CT sc mX9_drop [aR 0, aI s] (mk S) Q := by
  refine S_of (by decide) rfl ?_
  show G sc mX9_drop 0 [some (aR 0), some (aI s), none, none] [] (mk S) Q
  by_cases c : 0 ≤ s.toInt ∧ s.toInt ≤ 3
  · have es : s = nI s.toInt.toNat := nI_ofT (by omega)
    have ec : s.toNatClampNeg = s.toInt.toNat := nI_clampT (by omega)
    have hok2 := hok s.toInt.toNat es (by omega) ec
    have hnull2 := hnull c
    rw [ec] at hnull2
    have hk : s.toInt.toNat < 4 := by omega
    clear ec
    generalize s.toInt.toNat = k at es hok2 hk hnull2
    subst es
    obtain ⟨k1, k2⟩ := ShK_t k hk
    obtain ⟨a1, a2, a3⟩ := hS k hk
    have hb := (hc k hk).2
    refine G_iload_n (pc := 0) dX9_drop_0 rfl rfl ?_
    refine S_callS (av := [_]) (pc := 1) (z := mX9_isSheet) dX9_drop_1 zX9_isSheet lX9_drop_105 rfl (sX9_isSheet ⟨_, rfl, ?_⟩)
    refine B_if_ne (pc := 4) (tgt := 9) dX9_drop_4 (by decide) (fun c4 => ?_) (fun c4 => absurd c4 (by rw [decide_eq_true c]; exact fun q => by cases q))
    refine G_aload_n (pc := 9) dX9_drop_9 rfl rfl ?_
    refine S_getR (pc := 10) (b := 288) dX9_drop_10 fX9_77 rfl rfl (by first | rfl | assumption) rfl rfl ?_
    refine G_iload_n (pc := 13) dX9_drop_13 rfl rfl ?_
    refine N_aald (pc := 14) (t := 6) (n := 4) (b := 381 + 2 * k) dX9_drop_14 (by first | rfl | assumption) (by first | rfl | assumption) (by decide) (by omega) rfl ?_
    refine G_astore_n (pc := 15) dX9_drop_15 rfl (by decide) rfl ?_
    refine G_aload_n (pc := 16) dX9_drop_16 rfl rfl ?_
    refine S_callV (av := []) (pc := 17) (z := mX5_isThere) (ci := 4) dX9_drop_17 zX5_isThere lX9_drop_224 rfl (by first | rfl | assumption) rfl rfl (sX5_isThere hk a1 ⟨_, rfl, ?_⟩)
    refine B_if_ne (pc := 20) (tgt := 26) dX9_drop_20 (by decide) (fun c20 => ?_) (fun c20 => ?_)
    · skip
      rw [decide_eq_true_eq] at c20
      have c21 : 0 ≤ (S0.2.1 410 k).toInt := by omega
      refine G_aload_n (pc := 26) dX9_drop_26 rfl rfl ?_
      refine S_getI (pc := 27) dX9_drop_27 fX9_228 rfl (by first | rfl | assumption) rfl ?_
      rw [a2 c21]
      refine G_istore_n (pc := 30) dX9_drop_30 rfl (by decide) rfl ?_
      refine G_aload_n (pc := 31) dX9_drop_31 rfl rfl ?_
      refine S_callV (av := []) (pc := 32) (z := mX5_vanish) (ci := 4) dX9_drop_32 zX5_vanish lX9_drop_229 rfl (by first | rfl | assumption) rfl rfl (sX5_vanish hk ⟨_, rfl, ?_⟩)
      refine G_iload_n (pc := 35) dX9_drop_35 rfl rfl ?_
      refine S_iret (pc := 36) dX9_drop_36 rfl ?_
      exact hok2 c21
    · skip
      rw [decide_eq_false_iff_not] at c20
      refine G_bipush (pc := 23) (v := (-11)) dX9_drop_23 (by decide) ?_
      refine S_iret (pc := 25) dX9_drop_25 rfl ?_
      exact hnull2 (by omega)
  · skip
    refine G_iload_n (pc := 0) dX9_drop_0 rfl rfl ?_
    refine S_callS (av := [_]) (pc := 1) (z := mX9_isSheet) dX9_drop_1 zX9_isSheet lX9_drop_105 rfl (sX9_isSheet ⟨_, rfl, ?_⟩)
    refine B_if_ne (pc := 4) (tgt := 9) dX9_drop_4 (by decide) (fun c4 => absurd c4 (by rw [decide_eq_false c]; exact fun q => by cases q)) (fun c4 => ?_)
    refine G_iconst (pc := 7) (v := (-1)) dX9_drop_7 (by decide) ?_
    refine S_iret (pc := 8) dX9_drop_8 rfl ?_
    exact hbad c
theorem lane_n {S : ST} {k : Nat} {l : Int32} (h : (S.2.1 410 k).toInt = l.toInt) (hl : 0 ≤ l.toInt ∧ l.toInt ≤ 2) : S.2.1 410 k = nI l.toNatClampNeg ∧ l.toNatClampNeg ≤ 2 := by
  have e : l = nI l.toInt.toNat := nI_ofT (by omega)
  have ec : l.toNatClampNeg = l.toInt.toNat := nI_clampT (by omega)
  rw [ec]
  exact ⟨(Int32.toInt_inj.mp h).trans e, by omega⟩
theorem lackV_0 {v l : Int32} : (lackV v l).toInt = 0 ↔ v.toInt = l.toInt := by
  unfold lackV
  by_cases h : v.toInt = l.toInt
  · rw [if_pos h]; exact ⟨fun _ => h, fun _ => rfl⟩
  · rw [if_neg h]
    refine ⟨fun q => ?_, fun q => absurd q h⟩
    split at q
    · exact absurd q (by decide)
    · exact absurd q (by decide)
set_option maxRecDepth 100000 in
set_option maxHeartbeats 4000000 in
theorem sX9_item {S0 : ST} {s l i v : Int32} (hc : MIc S0) (hS : CSh S0 S) (hbad : isShB s l = false → Q (some (aI (-1))) (mk S)) (hno : isShB s l = true → ¬ (S0.2.1 410 s.toNatClampNeg).toInt = l.toInt → Q (some (aI (lackV (S0.2.1 410 s.toNatClampNeg) l))) (mk S))
    (hidx : isShB s l = true → (S0.2.1 410 s.toNatClampNeg).toInt = l.toInt → ¬ (0 ≤ i.toInt ∧ i.toInt < rsN S0 s.toNatClampNeg) → Q (some (aI (-13))) (mk S))
    (hok : ∀ k, s = nI k → k < 4 → s.toNatClampNeg = k → isShB s l = true → (S0.2.1 410 k).toInt = l.toInt → 0 ≤ i.toInt ∧ i.toInt < rsN S0 k → Q (some (aI (nI 1))) (mk (upI S (381 + 2 * k + 1) i.toNatClampNeg (laneV l.toNatClampNeg v)))) : CT sc mX9_item [aR 0, aI s, aI l, aI i, aI v] (mk S) Q := by
  refine S_of (by decide) rfl ?_
  show G sc mX9_item 0 [some (aR 0), some (aI s), some (aI l), some (aI i), some (aI v), none, none] [] (mk S) Q
  have nb : ∀ p : Prop, ¬ p → (isShB s l = true → p) → isShB s l = false := fun p h1 h2 => by
    rcases e : isShB s l with _ | _
    · rfl
    · exact absurd (h2 e) h1
  refine G_iload_n (pc := 0) dX9_item_0 rfl rfl ?_
  refine S_callS (av := [_]) (pc := 1) (z := mX9_isSheet) dX9_item_1 zX9_isSheet lX9_item_105 rfl (sX9_isSheet ⟨_, rfl, ?_⟩)
  refine B_if_eq (pc := 4) (tgt := 14) dX9_item_4 (by decide) (fun c4 => ?_) (fun c4 => ?_)
  · skip
    rw [decide_eq_false_iff_not] at c4
    have hB := nb _ c4 (fun e => (isShB_iff.mp e).1)
    refine G_iconst (pc := 14) (v := (-1)) dX9_item_14 (by decide) ?_
    refine S_iret (pc := 15) dX9_item_15 rfl ?_
    exact hbad hB
  · skip
    refine G_iload_n (pc := 7) dX9_item_7 rfl rfl ?_
    refine S_callS (av := [_]) (pc := 8) (z := mX9_isLane) dX9_item_8 zX9_isLane lX9_item_108 rfl (sX9_isLane ⟨_, rfl, ?_⟩)
    refine B_if_ne (pc := 11) (tgt := 16) dX9_item_11 (by decide) (fun c11 => ?_) (fun c11 => ?_)
    · skip
      rw [decide_eq_true_eq] at c4 c11
      have hT : isShB s l = true := isShB_iff.mpr ⟨c4, c11⟩
      have es : s = nI s.toInt.toNat := nI_ofT (by omega)
      have ec : s.toNatClampNeg = s.toInt.toNat := nI_clampT (by omega)
      have hok2 := hok s.toInt.toNat es (by omega) ec hT
      have hno2 := hno hT
      have hidx2 := hidx hT
      rw [ec] at hno2 hidx2
      have hk : s.toInt.toNat < 4 := by omega
      clear ec nb hbad
      generalize s.toInt.toNat = k at es hok2 hk hno2 hidx2
      subst es
      obtain ⟨k1, k2⟩ := ShK_t k hk
      obtain ⟨a1, a2, a3⟩ := hS k hk
      obtain ⟨⟨r1, r2⟩, r3, r4⟩ := hc k hk
      refine G_aload_n (pc := 16) dX9_item_16 rfl rfl ?_
      refine S_getR (pc := 17) (b := 288) dX9_item_17 fX9_77 rfl rfl (by first | rfl | assumption) rfl rfl ?_
      refine G_iload_n (pc := 20) dX9_item_20 rfl rfl ?_
      refine N_aald (pc := 21) (t := 6) (n := 4) (b := 381 + 2 * k) dX9_item_21 (by first | rfl | assumption) (by first | rfl | assumption) (by decide) (by omega) rfl ?_
      refine G_astore (pc := 22) dX9_item_22 (by decide) rfl ?_
      refine G_aload (pc := 24) dX9_item_24 rfl ?_
      refine G_iload_n (pc := 26) dX9_item_26 rfl rfl ?_
      refine S_callV (av := [_]) (pc := 27) (z := mX5_refusalOf) (ci := 4) dX9_item_27 zX5_refusalOf lX9_item_111 rfl (by first | rfl | assumption) rfl rfl (sX5_refusalOf hk a1 r3 (by omega) ⟨_, rfl, ?_⟩)
      refine G_istore (pc := 30) dX9_item_30 (by decide) rfl ?_
      refine G_iload (pc := 32) dX9_item_32 rfl ?_
      refine T_if_eq (pc := 34) (tgt := 40) dX9_item_34 (by decide) (fun c34 => ?_) (fun c34 => ?_)
      · skip
        have hq := lackV_0.mp c34
        have ez : S.1 (381 + 2 * k) 1 = nI (rsN S0 k) := (a2 (by omega)).trans r1
        refine G_aload (pc := 40) dX9_item_40 rfl ?_
        refine G_iload_n (pc := 42) dX9_item_42 rfl rfl ?_
        refine G_iconst (pc := 43) (v := nI 1) dX9_item_43 (by decide) ?_
        refine S_callV (av := [_, _]) (pc := 44) (z := mX5_holds) (ci := 4) dX9_item_44 zX5_holds lX9_item_115 rfl (by first | rfl | assumption) rfl rfl (sX5_holds hk ez r2 (by omega) ⟨_, rfl, ?_⟩)
        refine B_if_ne (pc := 47) (tgt := 53) dX9_item_47 (by decide) (fun c47 => ?_) (fun c47 => ?_)
        · skip
          rw [decide_eq_true_eq] at c47
          obtain ⟨l1, l2⟩ := lane_n hq c11
          have ei : i = nI i.toInt.toNat := nI_ofT (by omega)
          have eic : i.toNatClampNeg = i.toInt.toNat := nI_clampT (by omega)
          have hok3 := hok2 hq (by omega)
          rw [eic] at hok3
          have hil : i.toInt.toNat < 20 := by omega
          clear eic hidx2
          generalize i.toInt.toNat = j at ei hok3 hil
          subst ei
          refine G_aload (pc := 53) dX9_item_53 rfl ?_
          refine G_iload_n (pc := 55) dX9_item_55 rfl rfl ?_
          refine G_iload (pc := 56) dX9_item_56 rfl ?_
          refine S_callV (av := [_, _]) (pc := 58) (z := mX5_write) (ci := 4) dX9_item_58 zX5_write lX9_item_232 rfl (by first | rfl | assumption) rfl rfl (sX5_write hk (a1.trans l1) l2 hil ⟨_, rfl, ?_⟩)
          refine G_iconst (pc := 61) (v := nI 1) dX9_item_61 (by decide) ?_
          refine S_iret (pc := 62) dX9_item_62 rfl ?_
          exact hok3
        · skip
          rw [decide_eq_false_iff_not] at c47
          refine G_bipush (pc := 50) (v := (-13)) dX9_item_50 (by decide) ?_
          refine S_iret (pc := 52) dX9_item_52 rfl ?_
          exact hidx2 hq (by omega)
      · skip
        refine G_iload (pc := 37) dX9_item_37 rfl ?_
        refine S_iret (pc := 39) dX9_item_39 rfl ?_
        exact hno2 (fun q => c34 (lackV_0.mpr q))
    · skip
      rw [decide_eq_false_iff_not] at c11
      have hB := nb _ c11 (fun e => (isShB_iff.mp e).2)
      refine G_iconst (pc := 14) (v := (-1)) dX9_item_14 (by decide) ?_
      refine S_iret (pc := 15) dX9_item_15 rfl ?_
      exact hbad hB
end C29
