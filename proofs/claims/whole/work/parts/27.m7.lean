/-! the model: byteAt, made, end, countOf, count -/
/-- how many of the first things are of the state q -/
def cntS (S : ST) (q : Int32) : Nat → Nat
  | 0 => 0
  | t + 1 => cntS S q t + (if (S.2.1 392 t).toInt = q.toInt then 1 else 0)
theorem cntS_le (S : ST) (q : Int32) : ∀ t, cntS S q t ≤ t
  | 0 => Nat.le_refl _
  | t + 1 => by
    have := cntS_le S q t
    unfold cntS
    split <;> omega
def sp_end (S : ST) (t i : Int32) : Int32 := if isTh (thN S) t = true ∧ -1 ≤ i.toInt then (if stN S t.toNatClampNeg = 1 ∨ stN S t.toNatClampNeg = 2 then (if i.toInt < 0 then nI (esN S t.toNatClampNeg) else if i.toInt < esN S t.toNatClampNeg then S.2.1 393 (36 * t.toNatClampNeg + i.toNatClampNeg) else -1) else -4) else -1
section M7
variable {sc : SC} {S : ST} {Q : Option AV → HM → Prop}
set_option maxRecDepth 100000 in
set_option maxHeartbeats 4000000 in
theorem countOf_lp {q : Int32} (hn : S.1 389 0 = nI (thN S)) (h12 : thN S ≤ 12) :
    ∀ (d t : Nat), t + d = thN S → Q (some (aI (nI (cntS S q (thN S))))) (mk S) → G sc mX10_countOf 4 [some (aR 389), some (aI q), some (aI (nI (cntS S q t))), some (aI (nI t))] [] (mk S) Q := by
  intro d
  induction d with
  | zero =>
    intro t ht h
    have hc := cntS_le S q t
    refine G_iload_n (pc := 4) dX10_countOf_4 rfl rfl ?_
    refine G_aload_n (pc := 5) dX10_countOf_5 rfl rfl ?_
    refine S_getI (pc := 6) dX10_countOf_6 fX10_80 rfl (by first | rfl | assumption) rfl ?_
    rw [hn]
    refine N_icmp_ge (pc := 9) (tgt := 36) dX10_countOf_9 (by decide) (by omega) (fun c9 => ?_) (fun c9 => absurd c9 (by omega))
    refine G_iload_n (pc := 36) dX10_countOf_36 rfl rfl ?_
    refine S_iret (pc := 37) dX10_countOf_37 rfl ?_
    exact q_i h (by rw [show t = thN S by omega])
  | succ d ih =>
    intro t ht h
    have hc := cntS_le S q t
    refine G_iload_n (pc := 4) dX10_countOf_4 rfl rfl ?_
    refine G_aload_n (pc := 5) dX10_countOf_5 rfl rfl ?_
    refine S_getI (pc := 6) dX10_countOf_6 fX10_80 rfl (by first | rfl | assumption) rfl ?_
    rw [hn]
    refine N_icmp_ge (pc := 9) (tgt := 36) dX10_countOf_9 (by decide) (by omega) (fun c9 => absurd c9 (by omega)) (fun c9 => ?_)
    refine G_iload_n (pc := 12) dX10_countOf_12 rfl rfl ?_
    refine G_aload_n (pc := 13) dX10_countOf_13 rfl rfl ?_
    refine S_getR (pc := 14) (b := 392) dX10_countOf_14 fX10_16 rfl rfl (by first | rfl | assumption) rfl rfl ?_
    refine G_iload_n (pc := 17) dX10_countOf_17 rfl rfl ?_
    refine N_iald (pc := 18) dX10_countOf_18 (by first | rfl | assumption) rfl (by omega) ?_
    refine G_iload_n (pc := 19) dX10_countOf_19 rfl rfl ?_
    refine T_icmp_ne (pc := 20) (tgt := 27) dX10_countOf_20 (by decide) (fun c20 => ?_) (fun c20 => ?_)
    · skip
      have e : cntS S q (t + 1) = cntS S q t + 0 := by show cntS S q t + (if (S.2.1 392 t).toInt = q.toInt then 1 else 0) = _; rw [if_neg c20]
      refine G_iconst (pc := 27) (v := nI 0) dX10_countOf_27 (by decide) ?_
      refine N_iadd (pc := 28) dX10_countOf_28 ?_
      refine G_istore_n (pc := 29) dX10_countOf_29 rfl (by decide) rfl ?_
      refine N_iinc (pc := 30) dX10_countOf_30 rfl (by decide) rfl ?_
      refine G_goto (pc := 33) (tgt := 4) dX10_countOf_33 (by decide) ?_
      exact (by rw [← e]; exact ih (t + 1) (by omega) h)
    · skip
      have e : cntS S q (t + 1) = cntS S q t + 1 := by show cntS S q t + (if (S.2.1 392 t).toInt = q.toInt then 1 else 0) = _; rw [if_pos c20]
      refine G_iconst (pc := 23) (v := nI 1) dX10_countOf_23 (by decide) ?_
      refine G_goto (pc := 24) (tgt := 28) dX10_countOf_24 (by decide) ?_
      refine N_iadd (pc := 28) dX10_countOf_28 ?_
      refine G_istore_n (pc := 29) dX10_countOf_29 rfl (by decide) rfl ?_
      refine N_iinc (pc := 30) dX10_countOf_30 rfl (by decide) rfl ?_
      refine G_goto (pc := 33) (tgt := 4) dX10_countOf_33 (by decide) ?_
      exact (by rw [← e]; exact ih (t + 1) (by omega) h)
set_option maxRecDepth 100000 in
set_option maxHeartbeats 4000000 in
theorem sX10_countOf {q : Int32} (ha : MIa S) (h : Q (some (aI (nI (cntS S q (thN S))))) (mk S)) : CT sc mX10_countOf [aR 389, aI q] (mk S) Q := by
  refine S_of (by decide) rfl ?_
  show G sc mX10_countOf 0 [some (aR 389), some (aI q), none, none] [] (mk S) Q
  refine G_iconst (pc := 0) (v := nI 0) dX10_countOf_0 (by decide) ?_
  refine G_istore_n (pc := 1) dX10_countOf_1 rfl (by decide) rfl ?_
  refine G_iconst (pc := 2) (v := nI 0) dX10_countOf_2 (by decide) ?_
  refine G_istore_n (pc := 3) dX10_countOf_3 rfl (by decide) rfl ?_
  exact countOf_lp ha.1.1 ha.1.2 (thN S) 0 (by omega) h
set_option maxRecDepth 100000 in
set_option maxHeartbeats 4000000 in
theorem sX10_byteAt {t i : Int32} (ha : MIa S) (h : Q (some (aI (sp_byteAt S t i))) (mk S)) : CT sc mX10_byteAt [aR 389, aI t, aI i] (mk S) Q := by
  refine S_of (by decide) rfl ?_
  show G sc mX10_byteAt 0 [some (aR 389), some (aI t), some (aI i)] [] (mk S) Q
  have hn := ha.1
  have z1 : (-1 : Int64).toInt = -1 := rfl
  refine G_aload_n (pc := 0) dX10_byteAt_0 rfl rfl ?_
  refine G_iload_n (pc := 1) dX10_byteAt_1 rfl rfl ?_
  refine S_callV (av := [_]) (pc := 2) (z := mX10_isThing) (ci := 9) dX10_byteAt_2 zX10_isThing lX10_byteAt_105 rfl (by first | rfl | assumption) rfl rfl (sX10_isThing hn.1 (by omega) ⟨_, rfl, ?_⟩)
  refine B_if_eq (pc := 5) (tgt := 28) dX10_byteAt_5 (by decide) (fun c5 => ?_) (fun c5 => ?_)
  · skip
    unfold sp_byteAt at h
    rw [if_neg (by simp [c5])] at h
    refine G_iconst (pc := 28) (v := (-1)) dX10_byteAt_28 (by decide) ?_
    refine S_iret (pc := 29) dX10_byteAt_29 rfl ?_
    exact h
  · skip
    unfold sp_byteAt at h
    obtain ⟨k, hk, rfl⟩ := isTh_of c5
    rw [nI_clamp (by omega)] at h
    have hs := ha.2 k hk
    refine G_iload_n (pc := 8) dX10_byteAt_8 rfl rfl ?_
    refine G_i2l (pc := 9) dX10_byteAt_9 ?_
    refine G_ldc2 (pc := 10) dX10_byteAt_10 kX10_109 ?_
    refine G_aload_n (pc := 13) dX10_byteAt_13 rfl rfl ?_
    refine S_getR (pc := 14) (b := 391) dX10_byteAt_14 fX10_13 rfl rfl (by first | rfl | assumption) rfl rfl ?_
    refine G_iload_n (pc := 17) dX10_byteAt_17 rfl rfl ?_
    refine N_iald (pc := 18) dX10_byteAt_18 (by first | rfl | assumption) rfl (by omega) ?_
    rw [hs.1]
    refine G_iconst (pc := 19) (v := nI 1) dX10_byteAt_19 (by decide) ?_
    refine G_isub (pc := 20) dX10_byteAt_20 ?_
    refine G_i2l (pc := 21) dX10_byteAt_21 ?_
    refine S_callS (av := [_, _, _]) (pc := 22) (z := mX10_in) dX10_byteAt_22 zX10_in lX10_byteAt_84 rfl (sX10_in ⟨_, rfl, ?_⟩)
    refine B_if_ne (pc := 25) (tgt := 30) dX10_byteAt_25 (by decide) (fun c25 => ?_) (fun c25 => ?_)
    · skip
      rw [decide_eq_true_iff, Int32.toInt_toInt64, Int32.toInt_toInt64, z1, nI_m1 (by omega)] at c25
      rw [if_pos ⟨c5, by omega, by omega⟩] at h
      refine G_iload_n (pc := 30) dX10_byteAt_30 rfl rfl ?_
      refine T_if_ge (pc := 31) (tgt := 43) dX10_byteAt_31 (by decide) (fun c31 => ?_) (fun c31 => ?_)
      · skip
        rw [if_neg (by omega)] at h
        obtain ⟨j, hj, rfl⟩ := nI_ex (x := i) (n := szN S k) (by omega) (by omega)
        rw [nI_clamp (by omega)] at h
        refine G_aload_n (pc := 43) dX10_byteAt_43 rfl rfl ?_
        refine S_getR (pc := 44) (b := 390) dX10_byteAt_44 fX10_7 rfl rfl (by first | rfl | assumption) rfl rfl ?_
        refine G_bipush (pc := 47) (v := nI 16) dX10_byteAt_47 (by decide) ?_
        refine G_iload_n (pc := 49) dX10_byteAt_49 rfl rfl ?_
        refine N_imul (pc := 50) dX10_byteAt_50 ?_
        refine G_iload_n (pc := 51) dX10_byteAt_51 rfl rfl ?_
        refine N_iadd (pc := 52) dX10_byteAt_52 ?_
        refine N_iald (pc := 53) dX10_byteAt_53 (by first | rfl | assumption) rfl (by omega) ?_
        refine S_iret (pc := 54) dX10_byteAt_54 rfl ?_
        exact h
      · skip
        rw [if_pos (by omega)] at h
        refine G_aload_n (pc := 34) dX10_byteAt_34 rfl rfl ?_
        refine S_getR (pc := 35) (b := 391) dX10_byteAt_35 fX10_13 rfl rfl (by first | rfl | assumption) rfl rfl ?_
        refine G_iload_n (pc := 38) dX10_byteAt_38 rfl rfl ?_
        refine N_iald (pc := 39) dX10_byteAt_39 (by first | rfl | assumption) rfl (by omega) ?_
        rw [hs.1]
        refine G_goto (pc := 40) (tgt := 54) dX10_byteAt_40 (by decide) ?_
        refine S_iret (pc := 54) dX10_byteAt_54 rfl ?_
        exact h
    · skip
      rw [decide_eq_false_iff_not, Int32.toInt_toInt64, Int32.toInt_toInt64, z1, nI_m1 (by omega)] at c25
      rw [if_neg (by omega)] at h
      refine G_iconst (pc := 28) (v := (-1)) dX10_byteAt_28 (by decide) ?_
      refine S_iret (pc := 29) dX10_byteAt_29 rfl ?_
      exact h
set_option maxRecDepth 100000 in
set_option maxHeartbeats 4000000 in
theorem sX10_end {t i : Int32} (ha : MIa S) (hb : MIb S) (h : Q (some (aI (sp_end S t i))) (mk S)) : CT sc mX10_end [aR 389, aI t, aI i] (mk S) Q := by
  refine S_of (by decide) rfl ?_
  show G sc mX10_end 0 [some (aR 389), some (aI t), some (aI i)] [] (mk S) Q
  have hn := ha.1
  have z1 : (-1 : Int32).toInt = -1 := rfl
  refine G_aload_n (pc := 0) dX10_end_0 rfl rfl ?_
  refine G_iload_n (pc := 1) dX10_end_1 rfl rfl ?_
  refine S_callV (av := [_]) (pc := 2) (z := mX10_isThing) (ci := 9) dX10_end_2 zX10_isThing lX10_end_105 rfl (by first | rfl | assumption) rfl rfl (sX10_isThing hn.1 (by omega) ⟨_, rfl, ?_⟩)
  refine B_if_eq (pc := 5) (tgt := 13) dX10_end_5 (by decide) (fun c5 => ?_) (fun c5 => ?_)
  · skip
    unfold sp_end at h
    rw [if_neg (by simp [c5])] at h
    refine G_iconst (pc := 13) (v := (-1)) dX10_end_13 (by decide) ?_
    refine S_iret (pc := 14) dX10_end_14 rfl ?_
    exact h
  · skip
    unfold sp_end at h
    obtain ⟨k, hk, rfl⟩ := isTh_of c5
    rw [nI_clamp (by omega)] at h
    have hs := hb k hk
    refine G_iload_n (pc := 8) dX10_end_8 rfl rfl ?_
    refine G_iconst (pc := 9) (v := (-1)) dX10_end_9 (by decide) ?_
    refine T_icmp_ge (pc := 10) (tgt := 15) dX10_end_10 (by decide) (fun c10 => ?_) (fun c10 => ?_)
    · skip
      rw [z1] at c10
      rw [if_pos ⟨c5, by omega⟩] at h
      refine G_aload_n (pc := 15) dX10_end_15 rfl rfl ?_
      refine S_getR (pc := 16) (b := 392) dX10_end_16 fX10_16 rfl rfl (by first | rfl | assumption) rfl rfl ?_
      refine G_iload_n (pc := 19) dX10_end_19 rfl rfl ?_
      refine N_iald (pc := 20) dX10_end_20 (by first | rfl | assumption) rfl (by omega) ?_
      rw [hs.1.1]
      refine G_iconst (pc := 21) (v := nI 1) dX10_end_21 (by decide) ?_
      refine N_icmp_eq (pc := 22) (tgt := 38) dX10_end_22 (by decide) (by omega) (fun c22 => ?_) (fun c22 => ?_)
      · skip
        rw [if_pos (Or.inl c22)] at h
        refine G_iload_n (pc := 38) dX10_end_38 rfl rfl ?_
        refine T_if_ge (pc := 39) (tgt := 51) dX10_end_39 (by decide) (fun c39 => ?_) (fun c39 => ?_)
        · skip
          rw [if_neg (by omega)] at h
          refine G_iload_n (pc := 51) dX10_end_51 rfl rfl ?_
          refine G_aload_n (pc := 52) dX10_end_52 rfl rfl ?_
          refine S_getR (pc := 53) (b := 394) dX10_end_53 fX10_22 rfl rfl (by first | rfl | assumption) rfl rfl ?_
          refine G_iload_n (pc := 56) dX10_end_56 rfl rfl ?_
          refine N_iald (pc := 57) dX10_end_57 (by first | rfl | assumption) rfl (by omega) ?_
          rw [hs.2.1.1]
          refine T_icmp_ge (pc := 58) (tgt := 75) dX10_end_58 (by decide) (fun c58 => ?_) (fun c58 => ?_)
          · skip
            rw [nIt (by omega)] at c58
            rw [if_neg (by omega)] at h
            refine G_iconst (pc := 75) (v := (-1)) dX10_end_75 (by decide) ?_
            refine S_iret (pc := 76) dX10_end_76 rfl ?_
            exact h
          · skip
            rw [nIt (by omega)] at c58
            rw [if_pos (by omega)] at h
            obtain ⟨j, hj, rfl⟩ := nI_ex (x := i) (n := esN S k) (by omega) (by omega)
            rw [nI_clamp (by omega)] at h
            refine G_aload_n (pc := 61) dX10_end_61 rfl rfl ?_
            refine S_getR (pc := 62) (b := 393) dX10_end_62 fX10_19 rfl rfl (by first | rfl | assumption) rfl rfl ?_
            refine G_bipush (pc := 65) (v := nI 36) dX10_end_65 (by decide) ?_
            refine G_iload_n (pc := 67) dX10_end_67 rfl rfl ?_
            refine N_imul (pc := 68) dX10_end_68 ?_
            refine G_iload_n (pc := 69) dX10_end_69 rfl rfl ?_
            refine N_iadd (pc := 70) dX10_end_70 ?_
            refine N_iald (pc := 71) dX10_end_71 (by first | rfl | assumption) rfl (by omega) ?_
            refine G_goto (pc := 72) (tgt := 76) dX10_end_72 (by decide) ?_
            refine S_iret (pc := 76) dX10_end_76 rfl ?_
            exact h
        · skip
          rw [if_pos (by omega)] at h
          refine G_aload_n (pc := 42) dX10_end_42 rfl rfl ?_
          refine S_getR (pc := 43) (b := 394) dX10_end_43 fX10_22 rfl rfl (by first | rfl | assumption) rfl rfl ?_
          refine G_iload_n (pc := 46) dX10_end_46 rfl rfl ?_
          refine N_iald (pc := 47) dX10_end_47 (by first | rfl | assumption) rfl (by omega) ?_
          rw [hs.2.1.1]
          refine G_goto (pc := 48) (tgt := 76) dX10_end_48 (by decide) ?_
          refine S_iret (pc := 76) dX10_end_76 rfl ?_
          exact h
      · skip
        refine G_aload_n (pc := 25) dX10_end_25 rfl rfl ?_
        refine S_getR (pc := 26) (b := 392) dX10_end_26 fX10_16 rfl rfl (by first | rfl | assumption) rfl rfl ?_
        refine G_iload_n (pc := 29) dX10_end_29 rfl rfl ?_
        refine N_iald (pc := 30) dX10_end_30 (by first | rfl | assumption) rfl (by omega) ?_
        rw [hs.1.1]
        refine G_iconst (pc := 31) (v := nI 2) dX10_end_31 (by decide) ?_
        refine N_icmp_eq (pc := 32) (tgt := 38) dX10_end_32 (by decide) (by omega) (fun c32 => ?_) (fun c32 => ?_)
        · skip
          rw [if_pos (Or.inr c32)] at h
          refine G_iload_n (pc := 38) dX10_end_38 rfl rfl ?_
          refine T_if_ge (pc := 39) (tgt := 51) dX10_end_39 (by decide) (fun c39 => ?_) (fun c39 => ?_)
          · skip
            rw [if_neg (by omega)] at h
            refine G_iload_n (pc := 51) dX10_end_51 rfl rfl ?_
            refine G_aload_n (pc := 52) dX10_end_52 rfl rfl ?_
            refine S_getR (pc := 53) (b := 394) dX10_end_53 fX10_22 rfl rfl (by first | rfl | assumption) rfl rfl ?_
            refine G_iload_n (pc := 56) dX10_end_56 rfl rfl ?_
            refine N_iald (pc := 57) dX10_end_57 (by first | rfl | assumption) rfl (by omega) ?_
            rw [hs.2.1.1]
            refine T_icmp_ge (pc := 58) (tgt := 75) dX10_end_58 (by decide) (fun c58 => ?_) (fun c58 => ?_)
            · skip
              rw [nIt (by omega)] at c58
              rw [if_neg (by omega)] at h
              refine G_iconst (pc := 75) (v := (-1)) dX10_end_75 (by decide) ?_
              refine S_iret (pc := 76) dX10_end_76 rfl ?_
              exact h
            · skip
              rw [nIt (by omega)] at c58
              rw [if_pos (by omega)] at h
              obtain ⟨j, hj, rfl⟩ := nI_ex (x := i) (n := esN S k) (by omega) (by omega)
              rw [nI_clamp (by omega)] at h
              refine G_aload_n (pc := 61) dX10_end_61 rfl rfl ?_
              refine S_getR (pc := 62) (b := 393) dX10_end_62 fX10_19 rfl rfl (by first | rfl | assumption) rfl rfl ?_
              refine G_bipush (pc := 65) (v := nI 36) dX10_end_65 (by decide) ?_
              refine G_iload_n (pc := 67) dX10_end_67 rfl rfl ?_
              refine N_imul (pc := 68) dX10_end_68 ?_
              refine G_iload_n (pc := 69) dX10_end_69 rfl rfl ?_
              refine N_iadd (pc := 70) dX10_end_70 ?_
              refine N_iald (pc := 71) dX10_end_71 (by first | rfl | assumption) rfl (by omega) ?_
              refine G_goto (pc := 72) (tgt := 76) dX10_end_72 (by decide) ?_
              refine S_iret (pc := 76) dX10_end_76 rfl ?_
              exact h
          · skip
            rw [if_pos (by omega)] at h
            refine G_aload_n (pc := 42) dX10_end_42 rfl rfl ?_
            refine S_getR (pc := 43) (b := 394) dX10_end_43 fX10_22 rfl rfl (by first | rfl | assumption) rfl rfl ?_
            refine G_iload_n (pc := 46) dX10_end_46 rfl rfl ?_
            refine N_iald (pc := 47) dX10_end_47 (by first | rfl | assumption) rfl (by omega) ?_
            rw [hs.2.1.1]
            refine G_goto (pc := 48) (tgt := 76) dX10_end_48 (by decide) ?_
            refine S_iret (pc := 76) dX10_end_76 rfl ?_
            exact h
        · skip
          rw [if_neg (by omega)] at h
          refine G_bipush (pc := 35) (v := (-4)) dX10_end_35 (by decide) ?_
          refine S_iret (pc := 37) dX10_end_37 rfl ?_
          exact h
    · skip
      rw [z1] at c10
      rw [if_neg (by omega)] at h
      refine G_iconst (pc := 13) (v := (-1)) dX10_end_13 (by decide) ?_
      refine S_iret (pc := 14) dX10_end_14 rfl ?_
      exact h
end M7
