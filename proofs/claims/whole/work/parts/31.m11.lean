/-! the model: line, put, made, show, count -/
/-- all bytes of n places of the row items, from b on, are such -/
def allIt (S : ST) (b : Nat) : Nat → Nat → Bool
  | 0, _ => true
  | d + 1, j => decide (32 ≤ (S.2.1 412 (b + j)).toInt ∧ (S.2.1 412 (b + j)).toInt ≤ 126) && allIt S b d (j + 1)
section M11
variable {sc : SC} {S : ST} {Q : Option AV → HM → Prop}
set_option maxRecDepth 100000 in
set_option maxHeartbeats 4000000 in
theorem line_lp1 {k l fr to n : Nat} {o5 : Int32} (hn : n ≤ 16) (hto : to + n ≤ 80) :
    ∀ (d j : Nat), j + d = n → (allIt S to d j = true → G sc mX10_line 111 [some (aR 389), some (aI (nI k)), some (aI (nI l)), some (aI (nI fr)), some (aI (nI n)), some (aI o5), some (aI (nI to)), some (aI (nI n))] [] (mk S) Q) → (allIt S to d j = false → Q (some (aI (-2))) (mk S)) →
      G sc mX10_line 72 [some (aR 389), some (aI (nI k)), some (aI (nI l)), some (aI (nI fr)), some (aI (nI n)), some (aI o5), some (aI (nI to)), some (aI (nI j))] [] (mk S) Q := by
  intro d
  induction d with
  | zero =>
    intro j hj h1 h0
    have e : j = n := by omega
    subst e
    refine G_iload (pc := 72) dX10_line_72 rfl ?_
    refine G_iload (pc := 74) dX10_line_74 rfl ?_
    refine N_icmp_ge (pc := 76) (tgt := 111) dX10_line_76 (by decide) (by omega) (fun c76 => ?_) (fun c76 => absurd c76 (by omega))
    exact h1 rfl
  | succ d ih =>
    intro j hj h1 h0
    have z1 : (32 : Int64).toInt = 32 := rfl
    have z2 : (126 : Int64).toInt = 126 := rfl
    refine G_iload (pc := 72) dX10_line_72 rfl ?_
    refine G_iload (pc := 74) dX10_line_74 rfl ?_
    refine N_icmp_ge (pc := 76) (tgt := 111) dX10_line_76 (by decide) (by omega) (fun c76 => absurd c76 (by omega)) (fun c76 => ?_)
    refine G_aload_n (pc := 79) dX10_line_79 rfl rfl ?_
    refine S_getR (pc := 80) (b := 412) dX10_line_80 fX10_77 rfl rfl (by first | rfl | assumption) rfl rfl ?_
    refine G_iload (pc := 83) dX10_line_83 rfl ?_
    refine G_iload (pc := 85) dX10_line_85 rfl ?_
    refine N_iadd (pc := 87) dX10_line_87 ?_
    refine N_iald (pc := 88) dX10_line_88 (by first | rfl | assumption) rfl (by omega) ?_
    refine G_i2l (pc := 89) dX10_line_89 ?_
    refine G_ldc2 (pc := 90) dX10_line_90 kX10_92 ?_
    refine G_ldc2 (pc := 93) dX10_line_93 kX10_94 ?_
    refine S_callS (av := [_, _, _]) (pc := 96) (z := mX10_in) dX10_line_96 zX10_in lX10_line_84 rfl (sX10_in ⟨_, rfl, ?_⟩)
    refine B_if_ne (pc := 99) (tgt := 105) dX10_line_99 (by decide) (fun c99 => ?_) (fun c99 => ?_)
    · skip
      rw [decide_eq_true_iff, Int32.toInt_toInt64, z1, z2] at c99
      have e : allIt S to (d + 1) j = allIt S to d (j + 1) := by
        show (decide (32 ≤ (S.2.1 412 (to + j)).toInt ∧ (S.2.1 412 (to + j)).toInt ≤ 126) && allIt S to d (j + 1)) = _
        rw [decide_eq_true c99]
        rfl
      rw [e] at h1 h0
      refine N_iinc (pc := 105) dX10_line_105 rfl (by decide) rfl ?_
      refine G_goto (pc := 108) (tgt := 72) dX10_line_108 (by decide) ?_
      exact ih (j + 1) (by omega) h1 h0
    · skip
      rw [decide_eq_false_iff_not, Int32.toInt_toInt64, z1, z2] at c99
      refine G_bipush (pc := 102) (v := (-2)) dX10_line_102 (by decide) ?_
      refine S_iret (pc := 104) dX10_line_104 rfl ?_
      exact h0 (by show (decide (32 ≤ (S.2.1 412 (to + j)).toInt ∧ (S.2.1 412 (to + j)).toInt ≤ 126) && allIt S to d (j + 1)) = _; rw [decide_eq_false c99]; rfl)
set_option maxRecDepth 100000 in
set_option maxHeartbeats 4000000 in
theorem line_lp2 {m k l fr to n : Nat} {o5 : Int32} (hm : m < 12) (hn : n ≤ 16) (hto : to + n ≤ 80) (hth : S.1 389 0 = nI m) :
    ∀ (d j : Nat), j + d = n → G sc mX10_line 164 [some (aR 389), some (aI (nI k)), some (aI (nI l)), some (aI (nI fr)), some (aI (nI n)), some (aI o5), some (aI (nI to)), some (aI (nI n))] [] (mk (upR S 390 (16 * m) n (fun i => S.2.1 412 (to + i)))) Q →
      G sc mX10_line 126 [some (aR 389), some (aI (nI k)), some (aI (nI l)), some (aI (nI fr)), some (aI (nI n)), some (aI o5), some (aI (nI to)), some (aI (nI j))] [] (mk (upR S 390 (16 * m) j (fun i => S.2.1 412 (to + i)))) Q := by
  intro d
  induction d with
  | zero =>
    intro j hj h
    have e : j = n := by omega
    subst e
    refine G_iload (pc := 126) dX10_line_126 rfl ?_
    refine G_iload (pc := 128) dX10_line_128 rfl ?_
    refine N_icmp_ge (pc := 130) (tgt := 164) dX10_line_130 (by decide) (by omega) (fun c130 => ?_) (fun c130 => absurd c130 (by omega))
    exact h
  | succ d ih =>
    intro j hj h
    refine G_iload (pc := 126) dX10_line_126 rfl ?_
    refine G_iload (pc := 128) dX10_line_128 rfl ?_
    refine N_icmp_ge (pc := 130) (tgt := 164) dX10_line_130 (by decide) (by omega) (fun c130 => absurd c130 (by omega)) (fun c130 => ?_)
    refine G_aload_n (pc := 133) dX10_line_133 rfl rfl ?_
    refine S_getR (pc := 134) (b := 390) dX10_line_134 fX10_7 rfl rfl (by first | rfl | assumption) rfl rfl ?_
    refine G_bipush (pc := 137) (v := nI 16) dX10_line_137 (by decide) ?_
    refine G_aload_n (pc := 139) dX10_line_139 rfl rfl ?_
    refine S_getI (pc := 140) dX10_line_140 fX10_80 rfl (by first | rfl | assumption) rfl ?_
    rw [show (upR S 390 (16 * m) j (fun i => S.2.1 412 (to + i))).1 389 0 = nI m from hth]
    refine N_imul (pc := 143) dX10_line_143 ?_
    refine G_iload (pc := 144) dX10_line_144 rfl ?_
    refine N_iadd (pc := 146) dX10_line_146 ?_
    refine G_aload_n (pc := 147) dX10_line_147 rfl rfl ?_
    refine S_getR (pc := 148) (b := 412) dX10_line_148 fX10_77 rfl rfl (by first | rfl | assumption) rfl rfl ?_
    refine G_iload (pc := 151) dX10_line_151 rfl ?_
    refine G_iload (pc := 153) dX10_line_153 rfl ?_
    refine N_iadd (pc := 155) dX10_line_155 ?_
    refine N_iald (pc := 156) dX10_line_156 (by first | rfl | assumption) rfl (by omega) ?_
    rw [show (upR S 390 (16 * m) j (fun i => S.2.1 412 (to + i))).2.1 412 (to + j) = S.2.1 412 (to + j) from upR_n (by omega)]
    refine N_iast (pc := 157) dX10_line_157 (by first | rfl | assumption) rfl (by omega) ?_
    rw [upR_s (f := fun i => S.2.1 412 (to + i))]
    refine N_iinc (pc := 158) dX10_line_158 rfl (by decide) rfl ?_
    refine G_goto (pc := 161) (tgt := 126) dX10_line_161 (by decide) ?_
    exact ih (j + 1) (by omega) h
set_option maxRecDepth 100000 in
set_option maxHeartbeats 4000000 in
theorem sX10_line {s l f n : Int32} {m : Nat} (hc : MIc S) (hm : m ≤ 12) (hth : S.1 389 0 = nI m) (hbad : isShB s l = false ∨ ¬ (1 ≤ n.toInt ∧ n.toInt ≤ 16) → Q (some (aI (-1))) (mk S))
    (hno : ∀ k, s = nI k → k < 4 → isShB s l = true → 1 ≤ n.toInt ∧ n.toInt ≤ 16 → ¬ (S.2.1 410 k).toInt = l.toInt → Q (some (aI (lackV (S.2.1 410 k) l))) (mk S))
    (hidx : ∀ k, s = nI k → k < 4 → isShB s l = true → 1 ≤ n.toInt ∧ n.toInt ≤ 16 → (S.2.1 410 k).toInt = l.toInt → ¬ (0 ≤ f.toInt ∧ f.toInt ≤ (rsN S k : Int) - n.toInt) → Q (some (aI (-13))) (mk S))
    (hnot : ∀ k b z, s = nI k → f = nI b → n = nI z → k < 4 → isShB s l = true → 1 ≤ z ∧ z ≤ 16 → (S.2.1 410 k).toInt = l.toInt → b + z ≤ rsN S k → allIt S (20 * k + b) z 0 = false → Q (some (aI (-2))) (mk S))
    (hfull : ∀ k b z, s = nI k → f = nI b → n = nI z → k < 4 → isShB s l = true → 1 ≤ z ∧ z ≤ 16 → (S.2.1 410 k).toInt = l.toInt → b + z ≤ rsN S k → allIt S (20 * k + b) z 0 = true → m = 12 → Q (some (aI (-3))) (mk S))
    (hok : ∀ k b z, s = nI k → f = nI b → n = nI z → k < 4 → isShB s l = true → 1 ≤ z ∧ z ≤ 16 → (S.2.1 410 k).toInt = l.toInt → b + z ≤ rsN S k → allIt S (20 * k + b) z 0 = true → m < 12 → Q (some (aI (nI m))) (mk (addT (upR S 390 (16 * m) z (fun i => S.2.1 412 (20 * k + b + i))) m (nI z)))) : CT sc mX10_line [aR 389, aI s, aI l, aI f, aI n] (mk S) Q := by
  refine S_of (by decide) rfl ?_
  show G sc mX10_line 0 [some (aR 389), some (aI s), some (aI l), some (aI f), some (aI n), none, none, none] [] (mk S) Q
  have z0 : (0 : Int64).toInt = 0 := rfl
  have z1 : (1 : Int64).toInt = 1 := rfl
  have z16 : (16 : Int64).toInt = 16 := rfl
  refine G_iload_n (pc := 0) dX10_line_0 rfl rfl ?_
  refine G_iload_n (pc := 1) dX10_line_1 rfl rfl ?_
  refine S_callS (av := [_, _]) (pc := 2) (z := mX10_isSheet) dX10_line_2 zX10_isSheet lX10_line_324 rfl (sX10_isSheet ⟨_, rfl, ?_⟩)
  refine B_if_eq (pc := 5) (tgt := 21) dX10_line_5 (by decide) (fun c5 => ?_) (fun c5 => ?_)
  · skip
    refine G_iconst (pc := 21) (v := (-1)) dX10_line_21 (by decide) ?_
    refine S_iret (pc := 22) dX10_line_22 rfl ?_
    first | exact hbad (Or.inl c5) | exact hbad (Or.inr c18)
  · skip
    obtain ⟨k, q, hk, hq, rfl, rfl⟩ := isShB_of c5
    have hs := hc k hk
    have hno := hno k rfl hk c5
    have hidx := hidx k rfl hk c5
    refine G_iload (pc := 8) dX10_line_8 rfl ?_
    refine G_i2l (pc := 10) dX10_line_10 ?_
    refine G_lconst (pc := 11) (v := 1) dX10_line_11 (by decide) ?_
    refine G_ldc2 (pc := 12) dX10_line_12 kX10_99 ?_
    refine S_callS (av := [_, _, _]) (pc := 15) (z := mX10_in) dX10_line_15 zX10_in lX10_line_84 rfl (sX10_in ⟨_, rfl, ?_⟩)
    refine B_if_ne (pc := 18) (tgt := 23) dX10_line_18 (by decide) (fun c18 => ?_) (fun c18 => ?_)
    · skip
      rw [decide_eq_true_iff, Int32.toInt_toInt64, z1, z16] at c18
      obtain ⟨z, hz, rfl⟩ := nI_ex (x := n) (n := 17) (by omega) (by omega)
      have c18' := c18
      rw [nIt (by omega)] at c18
      refine G_aload_n (pc := 23) dX10_line_23 rfl rfl ?_
      refine G_iload_n (pc := 24) dX10_line_24 rfl rfl ?_
      refine G_iload_n (pc := 25) dX10_line_25 rfl rfl ?_
      refine S_callV (av := [_, _]) (pc := 26) (z := mX10_lacksRow) (ci := 9) dX10_line_26 zX10_lacksRow lX10_line_327 rfl (by first | rfl | assumption) rfl rfl (sX10_lacksRow hk ⟨_, rfl, ?_⟩)
      refine G_istore (pc := 29) dX10_line_29 (by decide) rfl ?_
      refine G_iload (pc := 31) dX10_line_31 rfl ?_
      refine T_if_ge (pc := 33) (tgt := 39) dX10_line_33 (by decide) (fun c33 => ?_) (fun c33 => ?_)
      · skip
        have e : (S.2.1 410 k).toInt = (nI q).toInt := by
          by_cases z : (S.2.1 410 k).toInt = (nI q).toInt
          · exact z
          · exfalso
            unfold lackV at c33
            rw [if_neg z] at c33
            split at c33 <;> exact absurd c33 (by decide)
        refine G_iload_n (pc := 39) dX10_line_39 rfl rfl ?_
        refine G_i2l (pc := 40) dX10_line_40 ?_
        refine G_lconst (pc := 41) (v := 0) dX10_line_41 (by decide) ?_
        refine G_aload_n (pc := 42) dX10_line_42 rfl rfl ?_
        refine S_getR (pc := 43) (b := 411) dX10_line_43 fX10_74 rfl rfl (by first | rfl | assumption) rfl rfl ?_
        refine G_iload_n (pc := 46) dX10_line_46 rfl rfl ?_
        refine N_iald (pc := 47) dX10_line_47 (by first | rfl | assumption) rfl (by omega) ?_
        rw [hs.1.1]
        refine G_iload (pc := 48) dX10_line_48 rfl ?_
        refine G_isub (pc := 50) dX10_line_50 ?_
        refine G_i2l (pc := 51) dX10_line_51 ?_
        refine S_callS (av := [_, _, _]) (pc := 52) (z := mX10_in) dX10_line_52 zX10_in lX10_line_84 rfl (sX10_in ⟨_, rfl, ?_⟩)
        refine B_if_ne (pc := 55) (tgt := 61) dX10_line_55 (by decide) (fun c55 => ?_) (fun c55 => ?_)
        · skip
          rw [decide_eq_true_iff, Int32.toInt_toInt64, Int32.toInt_toInt64, z0, pk_sub_toInt (by omega) (by omega)] at c55
          obtain ⟨b, hb, rfl⟩ := nI_ex (x := f) (n := 21) (by omega) (by omega)
          rw [nIt (by omega)] at c55
          refine G_bipush (pc := 61) (v := nI 20) dX10_line_61 (by decide) ?_
          refine G_iload_n (pc := 63) dX10_line_63 rfl rfl ?_
          refine N_imul (pc := 64) dX10_line_64 ?_
          refine G_iload_n (pc := 65) dX10_line_65 rfl rfl ?_
          refine N_iadd (pc := 66) dX10_line_66 ?_
          refine G_istore (pc := 67) dX10_line_67 (by decide) rfl ?_
          refine G_iconst (pc := 69) (v := nI 0) dX10_line_69 (by decide) ?_
          refine G_istore (pc := 70) dX10_line_70 (by decide) rfl ?_
          refine line_lp1 (by omega) (by omega) z 0 (by omega) (fun hA => ?_) (fun hA => hnot k b z rfl rfl rfl hk c5 (by omega) e (by omega) hA)
          refine G_aload_n (pc := 111) dX10_line_111 rfl rfl ?_
          refine S_getI (pc := 112) dX10_line_112 fX10_80 rfl (by first | rfl | assumption) rfl ?_
          rw [hth]
          refine G_bipush (pc := 115) (v := nI 12) dX10_line_115 (by decide) ?_
          refine N_icmp_ne (pc := 117) (tgt := 123) dX10_line_117 (by decide) (by omega) (fun c117 => ?_) (fun c117 => ?_)
          · skip
            refine G_iconst (pc := 123) (v := nI 0) dX10_line_123 (by decide) ?_
            refine G_istore (pc := 124) dX10_line_124 (by decide) rfl ?_
            have e0 : mk S = mk (upR S 390 (16 * m) 0 (fun i => S.2.1 412 (20 * k + b + i))) := by rw [upR_0]
            rw [e0]
            refine line_lp2 (by omega) (by omega) (by omega) hth z 0 (by omega) ?_
            refine G_aload_n (pc := 164) dX10_line_164 rfl rfl ?_
            refine G_iload (pc := 165) dX10_line_165 rfl ?_
            refine S_callV (av := [_]) (pc := 167) (z := mX10_addThing) (ci := 9) dX10_line_167 zX10_addThing lX10_line_101 rfl (by first | rfl | assumption) rfl rfl (sX10_addThing (by omega) hth ⟨_, rfl, ?_⟩)
            refine S_iret (pc := 170) dX10_line_170 rfl ?_
            exact hok k b z rfl rfl rfl hk c5 (by omega) e (by omega) hA (by omega)
          · skip
            refine G_bipush (pc := 120) (v := (-3)) dX10_line_120 (by decide) ?_
            refine S_iret (pc := 122) dX10_line_122 rfl ?_
            exact hfull k b z rfl rfl rfl hk c5 (by omega) e (by omega) hA (by omega)
        · skip
          rw [decide_eq_false_iff_not, Int32.toInt_toInt64, Int32.toInt_toInt64, z0, pk_sub_toInt (by omega) (by omega)] at c55
          refine G_bipush (pc := 58) (v := (-13)) dX10_line_58 (by decide) ?_
          refine S_iret (pc := 60) dX10_line_60 rfl ?_
          exact hidx c18' e (by rw [nIt (by omega)]; exact c55)
      · skip
        have e : ¬ (S.2.1 410 k).toInt = (nI q).toInt := fun z => c33 (by unfold lackV; rw [if_pos z]; decide)
        refine G_iload (pc := 36) dX10_line_36 rfl ?_
        refine S_iret (pc := 38) dX10_line_38 rfl ?_
        exact hno c18' e
    · skip
      rw [decide_eq_false_iff_not, Int32.toInt_toInt64, z1, z16] at c18
      refine G_iconst (pc := 21) (v := (-1)) dX10_line_21 (by decide) ?_
      refine S_iret (pc := 22) dX10_line_22 rfl ?_
      first | exact hbad (Or.inl c5) | exact hbad (Or.inr c18)
end M11
