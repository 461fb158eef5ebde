/-! the model's smallest methods -/
section M1
variable {sc : SC} {S : ST} {Q : Option AV → HM → Prop}
set_option maxRecDepth 100000 in
set_option maxHeartbeats 4000000 in
theorem sX10_in {v lo hi : Int64} (h : Q (some (aI (bI (decide (lo.toInt ≤ v.toInt ∧ v.toInt ≤ hi.toInt))))) (mk S)) : CT sc mX10_in [aL v, aL lo, aL hi] (mk S) Q := by
  refine S_of (by decide) rfl ?_
  show G sc mX10_in 0 [some (aL v), none, some (aL lo), none, some (aL hi), none] [] (mk S) Q
  refine G_lload_n (pc := 0) dX10_in_0 rfl rfl ?_
  refine G_lload_n (pc := 1) dX10_in_1 rfl rfl ?_
  refine G_lcmp (pc := 2) dX10_in_2 ?_
  refine T_if_lt (pc := 3) (tgt := 17) dX10_in_3 (by decide) (fun c3 => ?_) (fun c3 => ?_)
  · skip
    have c3 := lgc_lt.mp (Int32.lt_iff_toInt_lt.mpr c3)
    refine G_iconst (pc := 17) (v := nI 0) dX10_in_17 (by decide) ?_
    refine S_zret (pc := 18) dX10_in_18 rfl rfl ?_
    exact q_i h (by first | exact z_f (by simp; omega) | exact z_t (by simp; omega))
  · skip
    have c3 : ¬ _ := fun q => c3 (Int32.lt_iff_toInt_lt.mp (lgc_lt.mpr q))
    refine G_lload_n (pc := 6) dX10_in_6 rfl rfl ?_
    refine G_lload (pc := 7) dX10_in_7 rfl ?_
    refine G_lcmp (pc := 9) dX10_in_9 ?_
    refine T_if_gt (pc := 10) (tgt := 17) dX10_in_10 (by decide) (fun c10 => ?_) (fun c10 => ?_)
    · skip
      have c10 := lgc_gt.mp (Int32.lt_iff_toInt_lt.mpr c10)
      refine G_iconst (pc := 17) (v := nI 0) dX10_in_17 (by decide) ?_
      refine S_zret (pc := 18) dX10_in_18 rfl rfl ?_
      exact q_i h (by first | exact z_f (by simp; omega) | exact z_t (by simp; omega))
    · skip
      have c10 : ¬ _ := fun q => c10 (Int32.lt_iff_toInt_lt.mp (lgc_gt.mpr q))
      refine G_iconst (pc := 13) (v := nI 1) dX10_in_13 (by decide) ?_
      refine G_goto (pc := 14) (tgt := 18) dX10_in_14 (by decide) ?_
      refine S_zret (pc := 18) dX10_in_18 rfl rfl ?_
      exact q_i h (by first | exact z_f (by simp; omega) | exact z_t (by simp; omega))
def isTh (n : Nat) (t : Int32) : Bool := decide (0 ≤ t.toInt ∧ t.toInt < n)
theorem nI_m1 {n : Nat} (h : n < 1000000) : (nI n - nI 1).toInt = (n : Int) - 1 := by
  rw [sub_toInt (by rw [nIt (by omega)]; show _ ≤ (n : Int) - 1; omega) (by rw [nIt (by omega)]; show (n : Int) - 1 < _; omega), nIt (by omega)]
  rfl
set_option maxRecDepth 100000 in
set_option maxHeartbeats 4000000 in
theorem sX10_isThing {t : Int32} {n : Nat} (hn : S.1 389 0 = nI n) (hn2 : n < 1000) (h : Q (some (aI (bI (isTh n t)))) (mk S)) : CT sc mX10_isThing [aR 389, aI t] (mk S) Q := by
  refine S_of (by decide) rfl ?_
  show G sc mX10_isThing 0 [some (aR 389), some (aI t)] [] (mk S) Q
  refine G_iload_n (pc := 0) dX10_isThing_0 rfl rfl ?_
  refine G_i2l (pc := 1) dX10_isThing_1 ?_
  refine G_lconst (pc := 2) (v := 0) dX10_isThing_2 (by decide) ?_
  refine G_aload_n (pc := 3) dX10_isThing_3 rfl rfl ?_
  refine S_getI (pc := 4) dX10_isThing_4 fX10_80 rfl (by first | rfl | assumption) rfl ?_
  refine G_iconst (pc := 7) (v := nI 1) dX10_isThing_7 (by decide) ?_
  refine G_isub (pc := 8) dX10_isThing_8 ?_
  refine G_i2l (pc := 9) dX10_isThing_9 ?_
  refine S_callS (av := [_, _, _]) (pc := 10) (z := mX10_in) dX10_isThing_10 zX10_in lX10_isThing_84 rfl (sX10_in ⟨_, rfl, ?_⟩)
  refine S_zret (pc := 13) dX10_isThing_13 rfl (bI_nar _) ?_
  exact q_b h (dec_b (by rw [hn, Int32.toInt_toInt64, Int32.toInt_toInt64, nI_m1 (by omega)]; show (0 : Int) ≤ _ ∧ _ ↔ _; omega))
def isDig (x : Int32) : Bool := decide (48 ≤ x.toInt ∧ x.toInt ≤ 57)
def isCap (x : Int32) : Bool := decide (65 ≤ x.toInt ∧ x.toInt ≤ 90)
def isSma (x : Int32) : Bool := decide (97 ≤ x.toInt ∧ x.toInt ≤ 122)
def isSgn (x : Int32) : Bool := !isDig x && !isCap x && !isSma x
/-- 0 digits, 1 letters, 2 capitals, else signs -/
def isKd (k : Nat) (x : Int32) : Bool := match k with
  | 0 => isDig x
  | 1 => isCap x || isSma x
  | 2 => isCap x
  | _ => isSgn x
set_option maxRecDepth 100000 in
set_option maxHeartbeats 4000000 in
theorem sX10_isDigit {x : Int32} (h : Q (some (aI (bI (isDig x)))) (mk S)) : CT sc mX10_isDigit [aI x] (mk S) Q := by
  refine S_of (by decide) rfl ?_
  show G sc mX10_isDigit 0 [some (aI x)] [] (mk S) Q
  refine G_iload_n (pc := 0) dX10_isDigit_0 rfl rfl ?_
  refine G_i2l (pc := 1) dX10_isDigit_1 ?_
  refine G_ldc2 (pc := 2) dX10_isDigit_2 kX10_111 ?_
  refine G_ldc2 (pc := 5) dX10_isDigit_5 kX10_113 ?_
  refine S_callS (av := [_, _, _]) (pc := 8) (z := mX10_in) dX10_isDigit_8 zX10_in lX10_isDigit_84 rfl (sX10_in ⟨_, rfl, ?_⟩)
  refine S_zret (pc := 11) dX10_isDigit_11 rfl (bI_nar _) ?_
  exact q_b h (dec_b (by rw [Int32.toInt_toInt64]; rfl))
set_option maxRecDepth 100000 in
set_option maxHeartbeats 4000000 in
theorem sX10_isCapital {x : Int32} (h : Q (some (aI (bI (isCap x)))) (mk S)) : CT sc mX10_isCapital [aI x] (mk S) Q := by
  refine S_of (by decide) rfl ?_
  show G sc mX10_isCapital 0 [some (aI x)] [] (mk S) Q
  refine G_iload_n (pc := 0) dX10_isCapital_0 rfl rfl ?_
  refine G_i2l (pc := 1) dX10_isCapital_1 ?_
  refine G_ldc2 (pc := 2) dX10_isCapital_2 kX10_115 ?_
  refine G_ldc2 (pc := 5) dX10_isCapital_5 kX10_117 ?_
  refine S_callS (av := [_, _, _]) (pc := 8) (z := mX10_in) dX10_isCapital_8 zX10_in lX10_isCapital_84 rfl (sX10_in ⟨_, rfl, ?_⟩)
  refine S_zret (pc := 11) dX10_isCapital_11 rfl (bI_nar _) ?_
  exact q_b h (dec_b (by rw [Int32.toInt_toInt64]; rfl))
set_option maxRecDepth 100000 in
set_option maxHeartbeats 4000000 in
theorem sX10_isSmall {x : Int32} (h : Q (some (aI (bI (isSma x)))) (mk S)) : CT sc mX10_isSmall [aI x] (mk S) Q := by
  refine S_of (by decide) rfl ?_
  show G sc mX10_isSmall 0 [some (aI x)] [] (mk S) Q
  refine G_iload_n (pc := 0) dX10_isSmall_0 rfl rfl ?_
  refine G_i2l (pc := 1) dX10_isSmall_1 ?_
  refine G_ldc2 (pc := 2) dX10_isSmall_2 kX10_119 ?_
  refine G_ldc2 (pc := 5) dX10_isSmall_5 kX10_121 ?_
  refine S_callS (av := [_, _, _]) (pc := 8) (z := mX10_in) dX10_isSmall_8 zX10_in lX10_isSmall_84 rfl (sX10_in ⟨_, rfl, ?_⟩)
  refine S_zret (pc := 11) dX10_isSmall_11 rfl (bI_nar _) ?_
  exact q_b h (dec_b (by rw [Int32.toInt_toInt64]; rfl))
set_option maxRecDepth 100000 in
set_option maxHeartbeats 4000000 in
theorem sX10_isSign {x : Int32} (h : Q (some (aI (bI (isSgn x)))) (mk S)) : CT sc mX10_isSign [aI x] (mk S) Q := by
  refine S_of (by decide) rfl ?_
  show G sc mX10_isSign 0 [some (aI x)] [] (mk S) Q
  refine G_iload_n (pc := 0) dX10_isSign_0 rfl rfl ?_
  refine S_callS (av := [_]) (pc := 1) (z := mX10_isDigit) dX10_isSign_1 zX10_isDigit lX10_isSign_123 rfl (sX10_isDigit ⟨_, rfl, ?_⟩)
  refine B_if_ne (pc := 4) (tgt := 25) dX10_isSign_4 (by decide) (fun c4 => ?_) (fun c4 => ?_)
  · skip
    refine G_iconst (pc := 25) (v := nI 0) dX10_isSign_25 (by decide) ?_
    refine S_zret (pc := 26) dX10_isSign_26 rfl rfl ?_
    exact q_i h (by simp [bI, isSgn, *])
  · skip
    refine G_iload_n (pc := 7) dX10_isSign_7 rfl rfl ?_
    refine S_callS (av := [_]) (pc := 8) (z := mX10_isCapital) dX10_isSign_8 zX10_isCapital lX10_isSign_126 rfl (sX10_isCapital ⟨_, rfl, ?_⟩)
    refine B_if_ne (pc := 11) (tgt := 25) dX10_isSign_11 (by decide) (fun c11 => ?_) (fun c11 => ?_)
    · skip
      refine G_iconst (pc := 25) (v := nI 0) dX10_isSign_25 (by decide) ?_
      refine S_zret (pc := 26) dX10_isSign_26 rfl rfl ?_
      exact q_i h (by simp [bI, isSgn, *])
    · skip
      refine G_iload_n (pc := 14) dX10_isSign_14 rfl rfl ?_
      refine S_callS (av := [_]) (pc := 15) (z := mX10_isSmall) dX10_isSign_15 zX10_isSmall lX10_isSign_129 rfl (sX10_isSmall ⟨_, rfl, ?_⟩)
      refine B_if_ne (pc := 18) (tgt := 25) dX10_isSign_18 (by decide) (fun c18 => ?_) (fun c18 => ?_)
      · skip
        refine G_iconst (pc := 25) (v := nI 0) dX10_isSign_25 (by decide) ?_
        refine S_zret (pc := 26) dX10_isSign_26 rfl rfl ?_
        exact q_i h (by simp [bI, isSgn, *])
      · skip
        refine G_iconst (pc := 21) (v := nI 1) dX10_isSign_21 (by decide) ?_
        refine G_goto (pc := 22) (tgt := 26) dX10_isSign_22 (by decide) ?_
        refine S_zret (pc := 26) dX10_isSign_26 rfl rfl ?_
        exact q_i h (by simp [bI, isSgn, *])
theorem kd_of {k : Nat} (h : k ≤ 3) : k = 0 ∨ k = 1 ∨ k = 2 ∨ k = 3 := by omega
set_option maxRecDepth 100000 in
set_option maxHeartbeats 4000000 in
theorem sX10_isOf {x : Int32} {k : Nat} (hk : k ≤ 3) (h : Q (some (aI (bI (isKd k x)))) (mk S)) : CT sc mX10_isOf [aI x, aI (nI k)] (mk S) Q := by
  refine S_of (by decide) rfl ?_
  show G sc mX10_isOf 0 [some (aI x), some (aI (nI k))] [] (mk S) Q
  rcases kd_of hk with rfl | rfl | rfl | rfl
  · skip
    refine G_iload_n (pc := 0) dX10_isOf_0 rfl rfl ?_
    refine T_if_ne (pc := 1) (tgt := 11) dX10_isOf_1 (by decide) (fun c1 => absurd c1 (by decide)) (fun c1 => ?_)
    refine G_iload_n (pc := 4) dX10_isOf_4 rfl rfl ?_
    refine S_callS (av := [_]) (pc := 5) (z := mX10_isDigit) dX10_isOf_5 zX10_isDigit lX10_isOf_123 rfl (sX10_isDigit ⟨_, rfl, ?_⟩)
    refine G_goto (pc := 8) (tgt := 54) dX10_isOf_8 (by decide) ?_
    refine S_zret (pc := 54) dX10_isOf_54 rfl (bI_nar _) ?_
    exact h
  · skip
    refine G_iload_n (pc := 0) dX10_isOf_0 rfl rfl ?_
    refine T_if_ne (pc := 1) (tgt := 11) dX10_isOf_1 (by decide) (fun c1 => ?_) (fun c1 => absurd c1 (by decide))
    refine G_iload_n (pc := 11) dX10_isOf_11 rfl rfl ?_
    refine G_iconst (pc := 12) (v := nI 1) dX10_isOf_12 (by decide) ?_
    refine T_icmp_ne (pc := 13) (tgt := 38) dX10_isOf_13 (by decide) (fun c13 => absurd c13 (by decide)) (fun c13 => ?_)
    refine G_iload_n (pc := 16) dX10_isOf_16 rfl rfl ?_
    refine S_callS (av := [_]) (pc := 17) (z := mX10_isCapital) dX10_isOf_17 zX10_isCapital lX10_isOf_126 rfl (sX10_isCapital ⟨_, rfl, ?_⟩)
    refine B_if_ne (pc := 20) (tgt := 30) dX10_isOf_20 (by decide) (fun c20 => ?_) (fun c20 => ?_)
    · skip
      refine G_iconst (pc := 30) (v := nI 1) dX10_isOf_30 (by decide) ?_
      refine G_goto (pc := 31) (tgt := 54) dX10_isOf_31 (by decide) ?_
      refine S_zret (pc := 54) dX10_isOf_54 rfl rfl ?_
      exact q_i h (by simp [bI, isKd, *])
    · skip
      refine G_iload_n (pc := 23) dX10_isOf_23 rfl rfl ?_
      refine S_callS (av := [_]) (pc := 24) (z := mX10_isSmall) dX10_isOf_24 zX10_isSmall lX10_isOf_129 rfl (sX10_isSmall ⟨_, rfl, ?_⟩)
      refine B_if_eq (pc := 27) (tgt := 34) dX10_isOf_27 (by decide) (fun c27 => ?_) (fun c27 => ?_)
      · skip
        refine G_iconst (pc := 34) (v := nI 0) dX10_isOf_34 (by decide) ?_
        refine G_goto (pc := 35) (tgt := 54) dX10_isOf_35 (by decide) ?_
        refine S_zret (pc := 54) dX10_isOf_54 rfl rfl ?_
        exact q_i h (by simp [bI, isKd, *])
      · skip
        refine G_iconst (pc := 30) (v := nI 1) dX10_isOf_30 (by decide) ?_
        refine G_goto (pc := 31) (tgt := 54) dX10_isOf_31 (by decide) ?_
        refine S_zret (pc := 54) dX10_isOf_54 rfl rfl ?_
        exact q_i h (by simp [bI, isKd, *])
  · skip
    refine G_iload_n (pc := 0) dX10_isOf_0 rfl rfl ?_
    refine T_if_ne (pc := 1) (tgt := 11) dX10_isOf_1 (by decide) (fun c1 => ?_) (fun c1 => absurd c1 (by decide))
    refine G_iload_n (pc := 11) dX10_isOf_11 rfl rfl ?_
    refine G_iconst (pc := 12) (v := nI 1) dX10_isOf_12 (by decide) ?_
    refine T_icmp_ne (pc := 13) (tgt := 38) dX10_isOf_13 (by decide) (fun c13 => ?_) (fun c13 => absurd c13 (by decide))
    refine G_iload_n (pc := 38) dX10_isOf_38 rfl rfl ?_
    refine G_iconst (pc := 39) (v := nI 2) dX10_isOf_39 (by decide) ?_
    refine T_icmp_ne (pc := 40) (tgt := 50) dX10_isOf_40 (by decide) (fun c40 => absurd c40 (by decide)) (fun c40 => ?_)
    refine G_iload_n (pc := 43) dX10_isOf_43 rfl rfl ?_
    refine S_callS (av := [_]) (pc := 44) (z := mX10_isCapital) dX10_isOf_44 zX10_isCapital lX10_isOf_126 rfl (sX10_isCapital ⟨_, rfl, ?_⟩)
    refine G_goto (pc := 47) (tgt := 54) dX10_isOf_47 (by decide) ?_
    refine S_zret (pc := 54) dX10_isOf_54 rfl (bI_nar _) ?_
    exact h
  · skip
    refine G_iload_n (pc := 0) dX10_isOf_0 rfl rfl ?_
    refine T_if_ne (pc := 1) (tgt := 11) dX10_isOf_1 (by decide) (fun c1 => ?_) (fun c1 => absurd c1 (by decide))
    refine G_iload_n (pc := 11) dX10_isOf_11 rfl rfl ?_
    refine G_iconst (pc := 12) (v := nI 1) dX10_isOf_12 (by decide) ?_
    refine T_icmp_ne (pc := 13) (tgt := 38) dX10_isOf_13 (by decide) (fun c13 => ?_) (fun c13 => absurd c13 (by decide))
    refine G_iload_n (pc := 38) dX10_isOf_38 rfl rfl ?_
    refine G_iconst (pc := 39) (v := nI 2) dX10_isOf_39 (by decide) ?_
    refine T_icmp_ne (pc := 40) (tgt := 50) dX10_isOf_40 (by decide) (fun c40 => ?_) (fun c40 => absurd c40 (by decide))
    refine G_iload_n (pc := 50) dX10_isOf_50 rfl rfl ?_
    refine S_callS (av := [_]) (pc := 51) (z := mX10_isSign) dX10_isOf_51 zX10_isSign lX10_isOf_132 rfl (sX10_isSign ⟨_, rfl, ?_⟩)
    refine S_zret (pc := 54) dX10_isOf_54 rfl (bI_nar _) ?_
    exact h
end M1
