/-! the class: kinds of bytes, rows -/
theorem by8 {x : Int32} (h : -128 ≤ x.toInt ∧ x.toInt ≤ 127) : x.toInt8.toInt32 = x := by
  apply Int32.toInt_inj.mp
  rw [Int8.toInt_toInt32, Int32.toInt_toInt8]
  exact Int.bmod_eq_of_le (by omega) (by omega)
theorem by8' {x : Int32} (h : isBy x) : x.toInt8.toInt32 = x := by8 (by have := h.1; have := h.2; omega)
section C1
variable {sc : SC} {S : ST} {Q : Option AV → HM → Prop}
set_option maxRecDepth 100000 in
set_option maxHeartbeats 4000000 in
theorem sX1_isDigit {x : Int32} (h : Q (some (aI (bI (isDig x)))) (mk S)) : CT sc mX1_isDigit [aI x] (mk S) Q := by
  refine S_of (by decide) rfl ?_
  show G sc mX1_isDigit 0 [some (aI x)] [] (mk S) Q
  have z1 : (nI 48).toInt = 48 := rfl
  have z2 : (nI 57).toInt = 57 := rfl
  unfold isDig at h
  refine G_iload_n (pc := 0) dX1_isDigit_0 rfl rfl ?_
  refine G_bipush (pc := 1) (v := nI 48) dX1_isDigit_1 (by decide) ?_
  refine T_icmp_lt (pc := 3) (tgt := 16) dX1_isDigit_3 (by decide) (fun c3 => ?_) (fun c3 => ?_)
  · skip
    rw [z1] at c3
    refine G_iconst (pc := 16) (v := nI 0) dX1_isDigit_16 (by decide) ?_
    refine S_zret (pc := 17) dX1_isDigit_17 rfl rfl ?_
    exact q_i h (by first | exact z_f (by simp; omega) | exact z_t (by simp; omega))
  · skip
    rw [z1] at c3
    refine G_iload_n (pc := 6) dX1_isDigit_6 rfl rfl ?_
    refine G_bipush (pc := 7) (v := nI 57) dX1_isDigit_7 (by decide) ?_
    refine T_icmp_gt (pc := 9) (tgt := 16) dX1_isDigit_9 (by decide) (fun c9 => ?_) (fun c9 => ?_)
    · skip
      rw [z2] at c9
      refine G_iconst (pc := 16) (v := nI 0) dX1_isDigit_16 (by decide) ?_
      refine S_zret (pc := 17) dX1_isDigit_17 rfl rfl ?_
      exact q_i h (by first | exact z_f (by simp; omega) | exact z_t (by simp; omega))
    · skip
      rw [z2] at c9
      refine G_iconst (pc := 12) (v := nI 1) dX1_isDigit_12 (by decide) ?_
      refine G_goto (pc := 13) (tgt := 17) dX1_isDigit_13 (by decide) ?_
      refine S_zret (pc := 17) dX1_isDigit_17 rfl rfl ?_
      exact q_i h (by first | exact z_f (by simp; omega) | exact z_t (by simp; omega))
set_option maxRecDepth 100000 in
set_option maxHeartbeats 4000000 in
theorem sX1_isCapital {x : Int32} (h : Q (some (aI (bI (isCap x)))) (mk S)) : CT sc mX1_isCapital [aI x] (mk S) Q := by
  refine S_of (by decide) rfl ?_
  show G sc mX1_isCapital 0 [some (aI x)] [] (mk S) Q
  have z1 : (nI 65).toInt = 65 := rfl
  have z2 : (nI 90).toInt = 90 := rfl
  unfold isCap at h
  refine G_iload_n (pc := 0) dX1_isCapital_0 rfl rfl ?_
  refine G_bipush (pc := 1) (v := nI 65) dX1_isCapital_1 (by decide) ?_
  refine T_icmp_lt (pc := 3) (tgt := 16) dX1_isCapital_3 (by decide) (fun c3 => ?_) (fun c3 => ?_)
  · skip
    rw [z1] at c3
    refine G_iconst (pc := 16) (v := nI 0) dX1_isCapital_16 (by decide) ?_
    refine S_zret (pc := 17) dX1_isCapital_17 rfl rfl ?_
    exact q_i h (by first | exact z_f (by simp; omega) | exact z_t (by simp; omega))
  · skip
    rw [z1] at c3
    refine G_iload_n (pc := 6) dX1_isCapital_6 rfl rfl ?_
    refine G_bipush (pc := 7) (v := nI 90) dX1_isCapital_7 (by decide) ?_
    refine T_icmp_gt (pc := 9) (tgt := 16) dX1_isCapital_9 (by decide) (fun c9 => ?_) (fun c9 => ?_)
    · skip
      rw [z2] at c9
      refine G_iconst (pc := 16) (v := nI 0) dX1_isCapital_16 (by decide) ?_
      refine S_zret (pc := 17) dX1_isCapital_17 rfl rfl ?_
      exact q_i h (by first | exact z_f (by simp; omega) | exact z_t (by simp; omega))
    · skip
      rw [z2] at c9
      refine G_iconst (pc := 12) (v := nI 1) dX1_isCapital_12 (by decide) ?_
      refine G_goto (pc := 13) (tgt := 17) dX1_isCapital_13 (by decide) ?_
      refine S_zret (pc := 17) dX1_isCapital_17 rfl rfl ?_
      exact q_i h (by first | exact z_f (by simp; omega) | exact z_t (by simp; omega))
set_option maxRecDepth 100000 in
set_option maxHeartbeats 4000000 in
theorem sX1_isSmall {x : Int32} (h : Q (some (aI (bI (isSma x)))) (mk S)) : CT sc mX1_isSmall [aI x] (mk S) Q := by
  refine S_of (by decide) rfl ?_
  show G sc mX1_isSmall 0 [some (aI x)] [] (mk S) Q
  have z1 : (nI 97).toInt = 97 := rfl
  have z2 : (nI 122).toInt = 122 := rfl
  unfold isSma at h
  refine G_iload_n (pc := 0) dX1_isSmall_0 rfl rfl ?_
  refine G_bipush (pc := 1) (v := nI 97) dX1_isSmall_1 (by decide) ?_
  refine T_icmp_lt (pc := 3) (tgt := 16) dX1_isSmall_3 (by decide) (fun c3 => ?_) (fun c3 => ?_)
  · skip
    rw [z1] at c3
    refine G_iconst (pc := 16) (v := nI 0) dX1_isSmall_16 (by decide) ?_
    refine S_zret (pc := 17) dX1_isSmall_17 rfl rfl ?_
    exact q_i h (by first | exact z_f (by simp; omega) | exact z_t (by simp; omega))
  · skip
    rw [z1] at c3
    refine G_iload_n (pc := 6) dX1_isSmall_6 rfl rfl ?_
    refine G_bipush (pc := 7) (v := nI 122) dX1_isSmall_7 (by decide) ?_
    refine T_icmp_gt (pc := 9) (tgt := 16) dX1_isSmall_9 (by decide) (fun c9 => ?_) (fun c9 => ?_)
    · skip
      rw [z2] at c9
      refine G_iconst (pc := 16) (v := nI 0) dX1_isSmall_16 (by decide) ?_
      refine S_zret (pc := 17) dX1_isSmall_17 rfl rfl ?_
      exact q_i h (by first | exact z_f (by simp; omega) | exact z_t (by simp; omega))
    · skip
      rw [z2] at c9
      refine G_iconst (pc := 12) (v := nI 1) dX1_isSmall_12 (by decide) ?_
      refine G_goto (pc := 13) (tgt := 17) dX1_isSmall_13 (by decide) ?_
      refine S_zret (pc := 17) dX1_isSmall_17 rfl rfl ?_
      exact q_i h (by first | exact z_f (by simp; omega) | exact z_t (by simp; omega))
set_option maxRecDepth 100000 in
set_option maxHeartbeats 4000000 in
theorem sX1_isOfRun {x : Int32} {k : Nat} (hk : k ≤ 3) (h : Q (some (aI (bI (isKd k x)))) (mk S)) : CT sc mX1_isOfRun [aI (nI k), aI x] (mk S) Q := by
  refine S_of (by decide) rfl ?_
  show G sc mX1_isOfRun 0 [some (aI (nI k)), some (aI x)] [] (mk S) Q
  rcases kd_of hk with rfl | rfl | rfl | rfl
  · skip
    refine G_iload_n (pc := 0) dX1_isOfRun_0 rfl rfl ?_
    refine G_tableIn (pc := 1) (tgt := 28) dX1_isOfRun_1 (by decide) (by decide) (off := 27) rfl (by decide) ?_
    refine G_iload_n (pc := 28) dX1_isOfRun_28 rfl rfl ?_
    refine S_callS (av := [_]) (pc := 29) (z := mX1_isDigit) dX1_isOfRun_29 zX1_isDigit lX1_isOfRun_9 rfl (sX1_isDigit ⟨_, rfl, ?_⟩)
    refine S_zret (pc := 32) dX1_isOfRun_32 rfl (bI_nar _) ?_
    exact h
  · skip
    refine G_iload_n (pc := 0) dX1_isOfRun_0 rfl rfl ?_
    refine G_tableIn (pc := 1) (tgt := 33) dX1_isOfRun_1 (by decide) (by decide) (off := 32) rfl (by decide) ?_
    refine G_iload_n (pc := 33) dX1_isOfRun_33 rfl rfl ?_
    refine S_callS (av := [_]) (pc := 34) (z := mX1_isCapital) dX1_isOfRun_34 zX1_isCapital lX1_isOfRun_15 rfl (sX1_isCapital ⟨_, rfl, ?_⟩)
    refine B_if_ne (pc := 37) (tgt := 47) dX1_isOfRun_37 (by decide) (fun c37 => ?_) (fun c37 => ?_)
    · skip
      refine G_iconst (pc := 47) (v := nI 1) dX1_isOfRun_47 (by decide) ?_
      refine G_goto (pc := 48) (tgt := 52) dX1_isOfRun_48 (by decide) ?_
      refine S_zret (pc := 52) dX1_isOfRun_52 rfl rfl ?_
      exact q_i h (by simp [bI, isKd, *])
    · skip
      refine G_iload_n (pc := 40) dX1_isOfRun_40 rfl rfl ?_
      refine S_callS (av := [_]) (pc := 41) (z := mX1_isSmall) dX1_isOfRun_41 zX1_isSmall lX1_isOfRun_18 rfl (sX1_isSmall ⟨_, rfl, ?_⟩)
      refine B_if_eq (pc := 44) (tgt := 51) dX1_isOfRun_44 (by decide) (fun c44 => ?_) (fun c44 => ?_)
      · skip
        refine G_iconst (pc := 51) (v := nI 0) dX1_isOfRun_51 (by decide) ?_
        refine S_zret (pc := 52) dX1_isOfRun_52 rfl rfl ?_
        exact q_i h (by simp [bI, isKd, *])
      · skip
        refine G_iconst (pc := 47) (v := nI 1) dX1_isOfRun_47 (by decide) ?_
        refine G_goto (pc := 48) (tgt := 52) dX1_isOfRun_48 (by decide) ?_
        refine S_zret (pc := 52) dX1_isOfRun_52 rfl rfl ?_
        exact q_i h (by simp [bI, isKd, *])
  · skip
    refine G_iload_n (pc := 0) dX1_isOfRun_0 rfl rfl ?_
    refine G_tableIn (pc := 1) (tgt := 53) dX1_isOfRun_1 (by decide) (by decide) (off := 52) rfl (by decide) ?_
    refine G_iload_n (pc := 53) dX1_isOfRun_53 rfl rfl ?_
    refine S_callS (av := [_]) (pc := 54) (z := mX1_isCapital) dX1_isOfRun_54 zX1_isCapital lX1_isOfRun_15 rfl (sX1_isCapital ⟨_, rfl, ?_⟩)
    refine S_zret (pc := 57) dX1_isOfRun_57 rfl (bI_nar _) ?_
    exact h
  · skip
    refine G_iload_n (pc := 0) dX1_isOfRun_0 rfl rfl ?_
    refine G_tableOut (pc := 1) (tgt := 58) dX1_isOfRun_1 (by decide) (by decide) ?_
    refine G_iload_n (pc := 58) dX1_isOfRun_58 rfl rfl ?_
    refine S_callS (av := [_]) (pc := 59) (z := mX1_isDigit) dX1_isOfRun_59 zX1_isDigit lX1_isOfRun_9 rfl (sX1_isDigit ⟨_, rfl, ?_⟩)
    refine B_if_ne (pc := 62) (tgt := 83) dX1_isOfRun_62 (by decide) (fun c62 => ?_) (fun c62 => ?_)
    · skip
      refine G_iconst (pc := 83) (v := nI 0) dX1_isOfRun_83 (by decide) ?_
      refine S_zret (pc := 84) dX1_isOfRun_84 rfl rfl ?_
      exact q_i h (by simp [bI, isKd, isSgn, *])
    · skip
      refine G_iload_n (pc := 65) dX1_isOfRun_65 rfl rfl ?_
      refine S_callS (av := [_]) (pc := 66) (z := mX1_isCapital) dX1_isOfRun_66 zX1_isCapital lX1_isOfRun_15 rfl (sX1_isCapital ⟨_, rfl, ?_⟩)
      refine B_if_ne (pc := 69) (tgt := 83) dX1_isOfRun_69 (by decide) (fun c69 => ?_) (fun c69 => ?_)
      · skip
        refine G_iconst (pc := 83) (v := nI 0) dX1_isOfRun_83 (by decide) ?_
        refine S_zret (pc := 84) dX1_isOfRun_84 rfl rfl ?_
        exact q_i h (by simp [bI, isKd, isSgn, *])
      · skip
        refine G_iload_n (pc := 72) dX1_isOfRun_72 rfl rfl ?_
        refine S_callS (av := [_]) (pc := 73) (z := mX1_isSmall) dX1_isOfRun_73 zX1_isSmall lX1_isOfRun_18 rfl (sX1_isSmall ⟨_, rfl, ?_⟩)
        refine B_if_ne (pc := 76) (tgt := 83) dX1_isOfRun_76 (by decide) (fun c76 => ?_) (fun c76 => ?_)
        · skip
          refine G_iconst (pc := 83) (v := nI 0) dX1_isOfRun_83 (by decide) ?_
          refine S_zret (pc := 84) dX1_isOfRun_84 rfl rfl ?_
          exact q_i h (by simp [bI, isKd, isSgn, *])
        · skip
          refine G_iconst (pc := 79) (v := nI 1) dX1_isOfRun_79 (by decide) ?_
          refine G_goto (pc := 80) (tgt := 84) dX1_isOfRun_80 (by decide) ?_
          refine S_zret (pc := 84) dX1_isOfRun_84 rfl rfl ?_
          exact q_i h (by simp [bI, isKd, isSgn, *])
theorem tu1 (c : Int32) : c - nI 97 + nI 65 = c - nI 32 := by
  rw [Int32.sub_eq_add_neg, Int32.add_assoc, Int32.sub_eq_add_neg]
  congr 1
theorem tu2 (c : Int32) : c - nI 65 + nI 97 = c + nI 32 := by
  rw [Int32.sub_eq_add_neg, Int32.add_assoc]
  congr 1
set_option maxRecDepth 100000 in
set_option maxHeartbeats 4000000 in
theorem sX1_turned {c : Int32} {t : Nat} (ht : t < 3) (h : Q (some (aI (turnI t c))) (mk S)) : CT sc mX1_turned [aI (nI t), aI c] (mk S) Q := by
  refine S_of (by decide) rfl ?_
  show G sc mX1_turned 0 [some (aI (nI t)), some (aI c)] [] (mk S) Q
  refine G_iload_n (pc := 0) dX1_turned_0 rfl rfl ?_
  refine G_iconst (pc := 1) (v := nI 1) dX1_turned_1 (by decide) ?_
  refine N_icmp_ne (pc := 2) (tgt := 20) dX1_turned_2 (by decide) (by omega) (fun c2 => ?_) (fun c2 => ?_)
  · skip
    refine G_iload_n (pc := 20) dX1_turned_20 rfl rfl ?_
    refine G_iconst (pc := 21) (v := nI 2) dX1_turned_21 (by decide) ?_
    refine N_icmp_ne (pc := 22) (tgt := 40) dX1_turned_22 (by decide) (by omega) (fun c22 => ?_) (fun c22 => ?_)
    · skip
      refine G_iload_n (pc := 40) dX1_turned_40 rfl rfl ?_
      refine S_iret (pc := 41) dX1_turned_41 rfl ?_
      exact q_i h (by simp only [turnI]; simp_all)
    · skip
      refine G_iload_n (pc := 25) dX1_turned_25 rfl rfl ?_
      refine S_callS (av := [_]) (pc := 26) (z := mX1_isCapital) dX1_turned_26 zX1_isCapital lX1_turned_15 rfl (sX1_isCapital ⟨_, rfl, ?_⟩)
      refine B_if_eq (pc := 29) (tgt := 40) dX1_turned_29 (by decide) (fun c29 => ?_) (fun c29 => ?_)
      · skip
        refine G_iload_n (pc := 40) dX1_turned_40 rfl rfl ?_
        refine S_iret (pc := 41) dX1_turned_41 rfl ?_
        exact q_i h (by simp only [turnI]; simp_all)
      · skip
        refine G_iload_n (pc := 32) dX1_turned_32 rfl rfl ?_
        refine G_bipush (pc := 33) (v := nI 65) dX1_turned_33 (by decide) ?_
        refine G_isub (pc := 35) dX1_turned_35 ?_
        refine G_bipush (pc := 36) (v := nI 97) dX1_turned_36 (by decide) ?_
        refine G_iadd (pc := 38) dX1_turned_38 ?_
        rw [tu2]
        refine S_iret (pc := 39) dX1_turned_39 rfl ?_
        exact q_i h (by simp only [turnI]; simp_all)
  · skip
    refine G_iload_n (pc := 5) dX1_turned_5 rfl rfl ?_
    refine S_callS (av := [_]) (pc := 6) (z := mX1_isSmall) dX1_turned_6 zX1_isSmall lX1_turned_18 rfl (sX1_isSmall ⟨_, rfl, ?_⟩)
    refine B_if_eq (pc := 9) (tgt := 20) dX1_turned_9 (by decide) (fun c9 => ?_) (fun c9 => ?_)
    · skip
      refine G_iload_n (pc := 20) dX1_turned_20 rfl rfl ?_
      refine G_iconst (pc := 21) (v := nI 2) dX1_turned_21 (by decide) ?_
      refine N_icmp_ne (pc := 22) (tgt := 40) dX1_turned_22 (by decide) (by omega) (fun c22 => ?_) (fun c22 => ?_)
      · skip
        refine G_iload_n (pc := 40) dX1_turned_40 rfl rfl ?_
        refine S_iret (pc := 41) dX1_turned_41 rfl ?_
        exact q_i h (by simp only [turnI]; simp_all)
      · skip
        refine G_iload_n (pc := 25) dX1_turned_25 rfl rfl ?_
        refine S_callS (av := [_]) (pc := 26) (z := mX1_isCapital) dX1_turned_26 zX1_isCapital lX1_turned_15 rfl (sX1_isCapital ⟨_, rfl, ?_⟩)
        refine B_if_eq (pc := 29) (tgt := 40) dX1_turned_29 (by decide) (fun c29 => ?_) (fun c29 => ?_)
        · skip
          refine G_iload_n (pc := 40) dX1_turned_40 rfl rfl ?_
          refine S_iret (pc := 41) dX1_turned_41 rfl ?_
          exact q_i h (by simp only [turnI]; simp_all)
        · skip
          refine G_iload_n (pc := 32) dX1_turned_32 rfl rfl ?_
          refine G_bipush (pc := 33) (v := nI 65) dX1_turned_33 (by decide) ?_
          refine G_isub (pc := 35) dX1_turned_35 ?_
          refine G_bipush (pc := 36) (v := nI 97) dX1_turned_36 (by decide) ?_
          refine G_iadd (pc := 38) dX1_turned_38 ?_
          rw [tu2]
          refine S_iret (pc := 39) dX1_turned_39 rfl ?_
          exact q_i h (by simp only [turnI]; simp_all)
    · skip
      refine G_iload_n (pc := 12) dX1_turned_12 rfl rfl ?_
      refine G_bipush (pc := 13) (v := nI 97) dX1_turned_13 (by decide) ?_
      refine G_isub (pc := 15) dX1_turned_15 ?_
      refine G_bipush (pc := 16) (v := nI 65) dX1_turned_16 (by decide) ?_
      refine G_iadd (pc := 18) dX1_turned_18 ?_
      rw [tu1]
      refine S_iret (pc := 19) dX1_turned_19 rfl ?_
      exact q_i h (by simp only [turnI]; simp_all)
set_option maxRecDepth 100000 in
set_option maxHeartbeats 4000000 in
theorem sX1_shapeKindOf {c : Int32} (h : Q (some (aI (nI (kindN c - 1)))) (mk S)) : CT sc mX1_shapeKindOf [aI c] (mk S) Q := by
  refine S_of (by decide) rfl ?_
  show G sc mX1_shapeKindOf 0 [some (aI c)] [] (mk S) Q
  refine G_iload_n (pc := 0) dX1_shapeKindOf_0 rfl rfl ?_
  refine S_callS (av := [_]) (pc := 1) (z := mX1_isDigit) dX1_shapeKindOf_1 zX1_isDigit lX1_shapeKindOf_9 rfl (sX1_isDigit ⟨_, rfl, ?_⟩)
  refine B_if_eq (pc := 4) (tgt := 9) dX1_shapeKindOf_4 (by decide) (fun c4 => ?_) (fun c4 => ?_)
  · skip
    refine G_iload_n (pc := 9) dX1_shapeKindOf_9 rfl rfl ?_
    refine S_callS (av := [_]) (pc := 10) (z := mX1_isSmall) dX1_shapeKindOf_10 zX1_isSmall lX1_shapeKindOf_18 rfl (sX1_isSmall ⟨_, rfl, ?_⟩)
    refine B_if_eq (pc := 13) (tgt := 18) dX1_shapeKindOf_13 (by decide) (fun c13 => ?_) (fun c13 => ?_)
    · skip
      refine G_iload_n (pc := 18) dX1_shapeKindOf_18 rfl rfl ?_
      refine S_callS (av := [_]) (pc := 19) (z := mX1_isCapital) dX1_shapeKindOf_19 zX1_isCapital lX1_shapeKindOf_15 rfl (sX1_isCapital ⟨_, rfl, ?_⟩)
      refine B_if_eq (pc := 22) (tgt := 29) dX1_shapeKindOf_22 (by decide) (fun c22 => ?_) (fun c22 => ?_)
      · skip
        refine G_iconst (pc := 29) (v := nI 3) dX1_shapeKindOf_29 (by decide) ?_
        refine S_iret (pc := 30) dX1_shapeKindOf_30 rfl ?_
        exact q_i h (by simp [kindN, *])
      · skip
        refine G_iconst (pc := 25) (v := nI 2) dX1_shapeKindOf_25 (by decide) ?_
        refine G_goto (pc := 26) (tgt := 30) dX1_shapeKindOf_26 (by decide) ?_
        refine S_iret (pc := 30) dX1_shapeKindOf_30 rfl ?_
        exact q_i h (by simp [kindN, *])
    · skip
      refine G_iconst (pc := 16) (v := nI 1) dX1_shapeKindOf_16 (by decide) ?_
      refine S_iret (pc := 17) dX1_shapeKindOf_17 rfl ?_
      exact q_i h (by simp [kindN, *])
  · skip
    refine G_iconst (pc := 7) (v := nI 0) dX1_shapeKindOf_7 (by decide) ?_
    refine S_iret (pc := 8) dX1_shapeKindOf_8 rfl ?_
    exact q_i h (by simp [kindN, *])
/-- the row object a holds l -/
abbrev RwIs (S : ST) (a : Nat) (l : List Int32) : Prop := RowIs S (a + 1) a 1 l
abbrev rwX (a : Nat) (x j : Nat) : Prop := x = a ∧ j = 1
abbrev rwA (a : Nat) (x : Nat) : Prop := x = a + 1
/-- what a row object is -/
def RwK (a n : Nat) : Prop := kd a = (3, 0) ∧ kd (a + 1) = (11, n) ∧ Nat.ble n 65536 = true
set_option maxRecDepth 100000 in
set_option maxHeartbeats 4000000 in
theorem sX4_clear {a n : Nat} (ha : RwK a n) (h : Q none (mk (upX S a 1 (nI 0)))) : CT sc mX4_clear [aR a] (mk S) Q := by
  refine S_of (by decide) rfl ?_
  show G sc mX4_clear 0 [some (aR a)] [] (mk S) Q
  obtain ⟨k1, k2, k3⟩ := ha
  refine G_aload_n (pc := 0) dX4_clear_0 rfl rfl ?_
  refine G_iconst (pc := 1) (v := nI 0) dX4_clear_1 (by decide) ?_
  refine S_putI (pc := 2) dX4_clear_2 fX4_15 (by decide) rfl (by first | rfl | assumption) rfl ?_
  refine S_vret (pc := 5) dX4_clear_5 rfl ?_
  exact h
set_option maxRecDepth 100000 in
set_option maxHeartbeats 4000000 in
theorem sX4_add {a n : Nat} {l : List Int32} {x : Int32} (ha : RwK a n) (hl : RwIs S a l) (hn : l.length < n) (hx : isBy x) (h : Q none (mk (upX (upI S (a + 1) l.length x) a 1 (nI (l.length + 1))))) : CT sc mX4_add [aR a, aI x] (mk S) Q := by
  refine S_of (by decide) rfl ?_
  show G sc mX4_add 0 [some (aR a), some (aI x)] [] (mk S) Q
  obtain ⟨k1, k2, k3⟩ := ha
  have hn2 : n ≤ 65536 := Nat.le_of_ble_eq_true k3
  refine G_aload_n (pc := 0) dX4_add_0 rfl rfl ?_
  refine S_getI (pc := 1) dX4_add_1 fX4_15 rfl (by first | rfl | assumption) rfl ?_
  rw [hl.1]
  refine G_aload_n (pc := 4) dX4_add_4 rfl rfl ?_
  refine S_getR (pc := 5) (b := a + 1) dX4_add_5 fX4_9 rfl rfl (by first | rfl | assumption) rfl rfl ?_
  refine S_alen (pc := 8) (t := 1) dX4_add_8 (by first | rfl | assumption) rfl rfl ?_
  rw [show Int32.ofNat n = nI n from rfl]
  refine N_icmp_ge (pc := 9) (tgt := 33) dX4_add_9 (by decide) (by omega) (fun c9 => absurd c9 (by omega)) (fun c9 => ?_)
  refine G_aload_n (pc := 12) dX4_add_12 rfl rfl ?_
  refine S_getR (pc := 13) (b := a + 1) dX4_add_13 fX4_9 rfl rfl (by first | rfl | assumption) rfl rfl ?_
  refine G_aload_n (pc := 16) dX4_add_16 rfl rfl ?_
  refine S_getI (pc := 17) dX4_add_17 fX4_15 rfl (by first | rfl | assumption) rfl ?_
  rw [hl.1]
  refine G_iload_n (pc := 20) dX4_add_20 rfl rfl ?_
  refine G_i2b (pc := 21) dX4_add_21 ?_
  refine N_bast (pc := 22) dX4_add_22 (by first | rfl | assumption) (by first | rfl | assumption) (by omega) ?_
  rw [by8' hx, by8' hx]
  refine G_aload_n (pc := 23) dX4_add_23 rfl rfl ?_
  refine G_dup (pc := 24) dX4_add_24 rfl ?_
  refine S_getI (pc := 25) dX4_add_25 fX4_15 rfl (by first | rfl | assumption) rfl ?_
  rw [show (upI S (a + 1) l.length x).1 a 1 = nI l.length from hl.1]
  refine G_iconst (pc := 28) (v := nI 1) dX4_add_28 (by decide) ?_
  refine N_iadd (pc := 29) dX4_add_29 ?_
  refine S_putI (pc := 30) dX4_add_30 fX4_15 (by decide) rfl (by first | rfl | assumption) rfl ?_
  refine S_vret (pc := 33) dX4_add_33 rfl ?_
  exact h
def tldR (l : List Int32) (i : Int32) : Int32 := if i.toInt < -1 then -1 else told l i
theorem tldR_ge {l : List Int32} {i : Int32} (h : -1 ≤ i.toInt) : tldR l i = told l i := by unfold tldR; rw [if_neg (by omega)]
set_option maxRecDepth 100000 in
set_option maxHeartbeats 4000000 in
theorem sX4_told {a n : Nat} {l : List Int32} {i : Int32} (ha : RwK a n) (hl : RwIs S a l) (hn : l.length ≤ n) (h : Q (some (aI (tldR l i))) (mk S)) : CT sc mX4_told [aR a, aI i] (mk S) Q := by
  refine S_of (by decide) rfl ?_
  show G sc mX4_told 0 [some (aR a), some (aI i)] [] (mk S) Q
  obtain ⟨k1, k2, k3⟩ := ha
  have hn2 : n ≤ 65536 := Nat.le_of_ble_eq_true k3
  have z1 : (-1 : Int32).toInt = -1 := rfl
  unfold tldR told at h
  refine G_iload_n (pc := 0) dX4_told_0 rfl rfl ?_
  refine G_iconst (pc := 1) (v := (-1)) dX4_told_1 (by decide) ?_
  refine T_icmp_ne (pc := 2) (tgt := 10) dX4_told_2 (by decide) (fun c2 => ?_) (fun c2 => ?_)
  · skip
    rw [z1] at c2
    refine G_iload_n (pc := 10) dX4_told_10 rfl rfl ?_
    refine T_if_lt (pc := 11) (tgt := 31) dX4_told_11 (by decide) (fun c11 => ?_) (fun c11 => ?_)
    · skip
      rw [if_pos (by omega)] at h
      refine G_iconst (pc := 31) (v := (-1)) dX4_told_31 (by decide) ?_
      refine S_iret (pc := 32) dX4_told_32 rfl ?_
      exact h
    · skip
      refine G_iload_n (pc := 14) dX4_told_14 rfl rfl ?_
      refine G_aload_n (pc := 15) dX4_told_15 rfl rfl ?_
      refine S_getI (pc := 16) dX4_told_16 fX4_15 rfl (by first | rfl | assumption) rfl ?_
      rw [hl.1]
      refine T_icmp_ge (pc := 19) (tgt := 31) dX4_told_19 (by decide) (fun c19 => ?_) (fun c19 => ?_)
      · skip
        rw [nIt (by omega)] at c19
        rw [if_neg (by omega), if_neg (by omega), if_neg (by omega)] at h
        refine G_iconst (pc := 31) (v := (-1)) dX4_told_31 (by decide) ?_
        refine S_iret (pc := 32) dX4_told_32 rfl ?_
        exact h
      · skip
        rw [nIt (by omega)] at c19
        rw [if_neg (by omega), if_neg (by omega), if_pos (by omega)] at h
        refine G_aload_n (pc := 22) dX4_told_22 rfl rfl ?_
        refine S_getR (pc := 23) (b := a + 1) dX4_told_23 fX4_9 rfl rfl (by first | rfl | assumption) rfl rfl ?_
        refine G_iload_n (pc := 26) dX4_told_26 rfl rfl ?_
        refine S_bald (pc := 27) dX4_told_27 (by first | rfl | assumption) (in_T (by omega) (by omega)) ?_
        rw [nI_clampT (n := i.toInt.toNat) (by omega), hl.2 _ (by omega)]
        refine G_goto (pc := 28) (tgt := 32) dX4_told_28 (by decide) ?_
        refine S_iret (pc := 32) dX4_told_32 rfl ?_
        exact h
  · skip
    rw [z1] at c2
    rw [if_neg (by omega), if_pos (by omega)] at h
    refine G_aload_n (pc := 5) dX4_told_5 rfl rfl ?_
    refine S_getI (pc := 6) dX4_told_6 fX4_15 rfl (by first | rfl | assumption) rfl ?_
    rw [hl.1]
    refine S_iret (pc := 9) dX4_told_9 rfl ?_
    exact h
theorem RowIs.take1 {S : ST} {a : Nat} {l : List Int32} {i : Nat} (h : RwIs S a (l.take i)) (hi : i < l.length) : RwIs (upX (upI S (a + 1) i (l.getD i 0)) a 1 (nI (i + 1))) a (l.take (i + 1)) := by
  have e : (l.take i).length = i := by rw [List.length_take]; omega
  have e2 : l.take (i + 1) = l.take i ++ [l.getD i 0] := by
    rw [List.take_add_one, List.getD_eq_getElem?_getD, List.getElem?_eq_getElem hi]
    rfl
  have := h.push (x := l.getD i 0)
  rw [e] at this
  rw [e2]
  exact this
set_option maxRecDepth 100000 in
set_option maxHeartbeats 4000000 in
theorem copyOf_lp {a n c m : Nat} {l : List Int32} (ha : RwK a n) (hc : RwK c m) (hac : ¬ a = c) (hn : l.length ≤ n) (hm : l.length ≤ m) (hby : LBy l) :
    ∀ (d i : Nat) (S : ST), i + d = l.length → RwIs S c l → RwIs S a (l.take i) → (∀ S', Fr (rwX a) (rwA a) S S' → RwIs S' a l → Q none (mk S')) →
      G sc mX4_copyOf 6 [some (aR a), some (aR c), some (aI (nI i))] [] (mk S) Q := by
  have ha0 := ha
  obtain ⟨k1, k2, k3⟩ := ha
  obtain ⟨j1, j2, j3⟩ := hc
  have hn2 : n ≤ 65536 := Nat.le_of_ble_eq_true k3
  intro d
  induction d with
  | zero =>
    intro i S hi hl hr h
    have e : i = l.length := by omega
    subst e
    rw [List.take_length] at hr
    refine G_iload_n (pc := 6) dX4_copyOf_6 rfl rfl ?_
    refine G_aload_n (pc := 7) dX4_copyOf_7 rfl rfl ?_
    refine S_getI (pc := 8) dX4_copyOf_8 fX4_15 rfl (by first | rfl | assumption) rfl ?_
    rw [hl.1]
    refine N_icmp_ge (pc := 11) (tgt := 30) dX4_copyOf_11 (by decide) (by omega) (fun c11 => ?_) (fun c11 => absurd c11 (by omega))
    refine S_vret (pc := 30) dX4_copyOf_30 rfl ?_
    exact h S Fr.rf hr
  | succ d ih =>
    intro i S hi hl hr h
    have e : (l.take i).length = i := by rw [List.length_take]; omega
    refine G_iload_n (pc := 6) dX4_copyOf_6 rfl rfl ?_
    refine G_aload_n (pc := 7) dX4_copyOf_7 rfl rfl ?_
    refine S_getI (pc := 8) dX4_copyOf_8 fX4_15 rfl (by first | rfl | assumption) rfl ?_
    rw [hl.1]
    refine N_icmp_ge (pc := 11) (tgt := 30) dX4_copyOf_11 (by decide) (by omega) (fun c11 => absurd c11 (by omega)) (fun c11 => ?_)
    refine G_aload_n (pc := 14) dX4_copyOf_14 rfl rfl ?_
    refine G_aload_n (pc := 15) dX4_copyOf_15 rfl rfl ?_
    refine S_getR (pc := 16) (b := c + 1) dX4_copyOf_16 fX4_9 rfl rfl (by first | rfl | assumption) rfl rfl ?_
    refine G_iload_n (pc := 19) dX4_copyOf_19 rfl rfl ?_
    refine N_bald (pc := 20) dX4_copyOf_20 (by first | rfl | assumption) (by first | rfl | assumption) (by omega) ?_
    rw [hl.2 i (by omega)]
    refine S_callV (av := [_]) (pc := 21) (z := mX4_add) (ci := 3) dX4_copyOf_21 zX4_add lX4_copyOf_22 rfl (by first | rfl | assumption) rfl rfl (sX4_add ha0 hr (by omega) (hby _ (getD_memI (by omega))) ⟨_, rfl, ?_⟩)
    refine N_iinc (pc := 24) dX4_copyOf_24 rfl (by decide) rfl ?_
    refine G_goto (pc := 27) (tgt := 6) dX4_copyOf_27 (by decide) ?_
    rw [e]
    refine ih (i + 1) _ (by omega) (hl.kept (upX_n (by omega)) (fun j => upI_n (by omega))) (hr.take1 (by omega)) (fun S' g1 g2 => h S' (Fr.tr (Fr.tr (Fr.upI rfl) (Fr.upX ⟨rfl, rfl⟩)) g1) g2)
set_option maxRecDepth 100000 in
set_option maxHeartbeats 4000000 in
theorem sX4_copyOf {a n c m : Nat} {l : List Int32} (ha : RwK a n) (hc : RwK c m) (hac : ¬ a = c) (hn : l.length ≤ n) (hm : l.length ≤ m) (hby : LBy l) (hl : RwIs S c l) (h : ∀ S', Fr (rwX a) (rwA a) S S' → RwIs S' a l → Q none (mk S')) : CT sc mX4_copyOf [aR a, aR c] (mk S) Q := by
  refine S_of (by decide) rfl ?_
  show G sc mX4_copyOf 0 [some (aR a), some (aR c), none] [] (mk S) Q
  have ha0 := ha
  obtain ⟨k1, k2, k3⟩ := ha
  refine G_aload_n (pc := 0) dX4_copyOf_0 rfl rfl ?_
  refine S_callV (av := []) (pc := 1) (z := mX4_clear) (ci := 3) dX4_copyOf_1 zX4_clear lX4_copyOf_19 rfl (by first | rfl | assumption) rfl rfl (sX4_clear ha0 ⟨_, rfl, ?_⟩)
  refine G_iconst (pc := 4) (v := nI 0) dX4_copyOf_4 (by decide) ?_
  refine G_istore_n (pc := 5) dX4_copyOf_5 rfl (by decide) rfl ?_
  exact copyOf_lp ha0 hc hac hn hm hby l.length 0 _ (by omega) (hl.kept (upX_n (by omega)) (fun j => rfl)) RowIs.nil (fun S' g1 g2 => h S' (Fr.tr (Fr.upX ⟨rfl, rfl⟩) g1) g2)
set_option maxRecDepth 100000 in
set_option maxHeartbeats 4000000 in
theorem isLike_lp {a n c m : Nat} {l k : List Int32} (ha : RwK a n) (hc : RwK c m) (hn : l.length ≤ n) (hm : k.length ≤ m) (hl : RwIs S a l) (hk : RwIs S c k) (hlk : l.length = k.length) :
    ∀ (d i : Nat), i + d = l.length → Q (some (aI (bI (eqF (fun i => l.getD i 0) (fun i => k.getD i 0) d i)))) (mk S) →
      G sc mX4_isLike 15 [some (aR a), some (aR c), some (aI (nI i))] [] (mk S) Q := by
  obtain ⟨k1, k2, k3⟩ := ha
  obtain ⟨j1, j2, j3⟩ := hc
  have hn2 : n ≤ 65536 := Nat.le_of_ble_eq_true k3
  intro d
  induction d with
  | zero =>
    intro i hi h
    refine G_iload_n (pc := 15) dX4_isLike_15 rfl rfl ?_
    refine G_aload_n (pc := 16) dX4_isLike_16 rfl rfl ?_
    refine S_getI (pc := 17) dX4_isLike_17 fX4_15 rfl (by first | rfl | assumption) rfl ?_
    rw [hl.1]
    refine N_icmp_ge (pc := 20) (tgt := 46) dX4_isLike_20 (by decide) (by omega) (fun c20 => ?_) (fun c20 => absurd c20 (by omega))
    refine G_iconst (pc := 46) (v := nI 1) dX4_isLike_46 (by decide) ?_
    refine S_zret (pc := 47) dX4_isLike_47 rfl rfl ?_
    exact h
  | succ d ih =>
    intro i hi h
    have e0 : eqF (fun i => l.getD i 0) (fun i => k.getD i 0) (d + 1) i = (decide ((l.getD i 0).toInt = (k.getD i 0).toInt) && eqF (fun i => l.getD i 0) (fun i => k.getD i 0) d (i + 1)) := rfl
    rw [e0] at h
    refine G_iload_n (pc := 15) dX4_isLike_15 rfl rfl ?_
    refine G_aload_n (pc := 16) dX4_isLike_16 rfl rfl ?_
    refine S_getI (pc := 17) dX4_isLike_17 fX4_15 rfl (by first | rfl | assumption) rfl ?_
    rw [hl.1]
    refine N_icmp_ge (pc := 20) (tgt := 46) dX4_isLike_20 (by decide) (by omega) (fun c20 => absurd c20 (by omega)) (fun c20 => ?_)
    refine G_aload_n (pc := 23) dX4_isLike_23 rfl rfl ?_
    refine S_getR (pc := 24) (b := a + 1) dX4_isLike_24 fX4_9 rfl rfl (by first | rfl | assumption) rfl rfl ?_
    refine G_iload_n (pc := 27) dX4_isLike_27 rfl rfl ?_
    refine N_bald (pc := 28) dX4_isLike_28 (by first | rfl | assumption) (by first | rfl | assumption) (by omega) ?_
    rw [hl.2 i (by omega)]
    refine G_aload_n (pc := 29) dX4_isLike_29 rfl rfl ?_
    refine S_getR (pc := 30) (b := c + 1) dX4_isLike_30 fX4_9 rfl rfl (by first | rfl | assumption) rfl rfl ?_
    refine G_iload_n (pc := 33) dX4_isLike_33 rfl rfl ?_
    refine N_bald (pc := 34) dX4_isLike_34 (by first | rfl | assumption) (by first | rfl | assumption) (by omega) ?_
    rw [hk.2 i (by omega)]
    refine T_icmp_eq (pc := 35) (tgt := 40) dX4_isLike_35 (by decide) (fun c35 => ?_) (fun c35 => ?_)
    · skip
      rw [decide_eq_true c35] at h
      refine N_iinc (pc := 40) dX4_isLike_40 rfl (by decide) rfl ?_
      refine G_goto (pc := 43) (tgt := 15) dX4_isLike_43 (by decide) ?_
      exact ih (i + 1) (by omega) h
    · skip
      rw [decide_eq_false c35] at h
      refine G_iconst (pc := 38) (v := nI 0) dX4_isLike_38 (by decide) ?_
      refine S_zret (pc := 39) dX4_isLike_39 rfl rfl ?_
      exact h
set_option maxRecDepth 100000 in
set_option maxHeartbeats 4000000 in
theorem sX4_isLike {a n c m : Nat} {l k : List Int32} (ha : RwK a n) (hc : RwK c m) (hn : l.length ≤ n) (hm : k.length ≤ m) (hl : RwIs S a l) (hk : RwIs S c k) (h : Q (some (aI (bI (decide (l = k))))) (mk S)) : CT sc mX4_isLike [aR a, aR c] (mk S) Q := by
  refine S_of (by decide) rfl ?_
  show G sc mX4_isLike 0 [some (aR a), some (aR c), none] [] (mk S) Q
  have ha0 := ha
  have hc0 := hc
  obtain ⟨k1, k2, k3⟩ := ha
  obtain ⟨j1, j2, j3⟩ := hc
  have hn2 : n ≤ 65536 := Nat.le_of_ble_eq_true k3
  have hm2 : m ≤ 65536 := Nat.le_of_ble_eq_true j3
  refine G_aload_n (pc := 0) dX4_isLike_0 rfl rfl ?_
  refine S_getI (pc := 1) dX4_isLike_1 fX4_15 rfl (by first | rfl | assumption) rfl ?_
  rw [hl.1]
  refine G_aload_n (pc := 4) dX4_isLike_4 rfl rfl ?_
  refine S_getI (pc := 5) dX4_isLike_5 fX4_15 rfl (by first | rfl | assumption) rfl ?_
  rw [hk.1]
  refine N_icmp_eq (pc := 8) (tgt := 13) dX4_isLike_8 (by decide) (by omega) (fun c8 => ?_) (fun c8 => ?_)
  · skip
    refine G_iconst (pc := 13) (v := nI 0) dX4_isLike_13 (by decide) ?_
    refine G_istore_n (pc := 14) dX4_isLike_14 rfl (by decide) rfl ?_
    exact isLike_lp ha0 hc0 hn hm hl hk c8 l.length 0 (by omega) (by rw [eqF_l c8]; exact h)
  · skip
    rw [decide_eq_false (fun e => c8 (by rw [e]))] at h
    refine G_iconst (pc := 11) (v := nI 0) dX4_isLike_11 (by decide) ?_
    refine S_zret (pc := 12) dX4_isLike_12 rfl rfl ?_
    exact h
end C1
