/-! the model: readPlace, readTyped, readCut, readProgram, text -/
def rdP (T : List Nat) (a : Nat) : Option Nat × Nat := match on1 T a [102, 101, 98, 97] with
  | none => (none, sk T a)
  | some c => if c < 2 then (if 48 ≤ lk T (sk T a + 1) ∧ lk T (sk T a + 1) ≤ 55 then (some (8 * c + (lk T (sk T a + 1) - 48)), sk T (sk T a + 1) + 1) else (none, sk T (sk T a + 1)))
    else match on1 T (sk T a + 1) [100, 119, 99, 115] with
      | none => (none, sk T (sk T a + 1))
      | some k => match on1 T (sk T (sk T a + 1) + 1) [49, 50, 122] with
        | none => (none, sk T (sk T (sk T a + 1) + 1))
        | some w => (some (16 + 6 * k + 3 * (c - 2) + w), sk T (sk T (sk T a + 1) + 1) + 1)
theorem rdP_0 {T : List Nat} {a : Nat} (h : on1 T a [102, 101, 98, 97] = none) : rdP T a = (none, sk T a) := by unfold rdP; rw [h]
theorem rdP_1 {T : List Nat} {a c : Nat} (h : on1 T a [102, 101, 98, 97] = some c) (hc : c < 2) : rdP T a = if 48 ≤ lk T (sk T a + 1) ∧ lk T (sk T a + 1) ≤ 55 then (some (8 * c + (lk T (sk T a + 1) - 48)), sk T (sk T a + 1) + 1) else (none, sk T (sk T a + 1)) := by
  unfold rdP
  rw [h]
  dsimp only
  rw [if_pos hc]
theorem rdP_2 {T : List Nat} {a c : Nat} (h : on1 T a [102, 101, 98, 97] = some c) (hc : ¬ c < 2) (h2 : on1 T (sk T a + 1) [100, 119, 99, 115] = none) : rdP T a = (none, sk T (sk T a + 1)) := by
  unfold rdP
  rw [h]
  dsimp only
  rw [if_neg hc, h2]
theorem rdP_3 {T : List Nat} {a c k : Nat} (h : on1 T a [102, 101, 98, 97] = some c) (hc : ¬ c < 2) (h2 : on1 T (sk T a + 1) [100, 119, 99, 115] = some k) (h3 : on1 T (sk T (sk T a + 1) + 1) [49, 50, 122] = none) : rdP T a = (none, sk T (sk T (sk T a + 1) + 1)) := by
  unfold rdP
  rw [h]
  dsimp only
  rw [if_neg hc, h2]
  dsimp only
  rw [h3]
theorem rdP_4 {T : List Nat} {a c k w : Nat} (h : on1 T a [102, 101, 98, 97] = some c) (hc : ¬ c < 2) (h2 : on1 T (sk T a + 1) [100, 119, 99, 115] = some k) (h3 : on1 T (sk T (sk T a + 1) + 1) [49, 50, 122] = some w) : rdP T a = (some (16 + 6 * k + 3 * (c - 2) + w), sk T (sk T (sk T a + 1) + 1) + 1) := by
  unfold rdP
  rw [h]
  dsimp only
  rw [if_neg hc, h2]
  dsimp only
  rw [h3]
theorem onA_n {T : List Nat} {a : Nat} {ws : List Nat} (h : on1 T a ws = none) : onA T a ws = sk T a := by unfold onA; rw [h]; rfl
theorem onA_s {T : List Nat} {a k : Nat} {ws : List Nat} (h : on1 T a ws = some k) : onA T a ws = sk T a + 1 := by unfold onA; rw [h]; rfl
theorem w1_ok : ∀ i, i < [102, 101, 98, 97].length → 1 ≤ ([102, 101, 98, 97] : List Nat).getD i 0 ∧ ([102, 101, 98, 97] : List Nat).getD i 0 ≤ 126 ∧ (((1717920353 : Int64) >>> ((nI (8 * ([102, 101, 98, 97].length - 1 - i))).toInt64 &&& 63)) &&& 255) = lN (([102, 101, 98, 97] : List Nat).getD i 0) := by
  intro i hi
  have hi : i < 4 := hi
  rcases (show i = 0 ∨ i = 1 ∨ i = 2 ∨ i = 3 by omega) with rfl | rfl | rfl | rfl <;> exact ⟨by decide, by decide, by decide⟩
theorem w2_ok : ∀ i, i < [100, 119, 99, 115].length → 1 ≤ ([100, 119, 99, 115] : List Nat).getD i 0 ∧ ([100, 119, 99, 115] : List Nat).getD i 0 ≤ 126 ∧ (((1685545843 : Int64) >>> ((nI (8 * ([100, 119, 99, 115].length - 1 - i))).toInt64 &&& 63)) &&& 255) = lN (([100, 119, 99, 115] : List Nat).getD i 0) := by
  intro i hi
  have hi : i < 4 := hi
  rcases (show i = 0 ∨ i = 1 ∨ i = 2 ∨ i = 3 by omega) with rfl | rfl | rfl | rfl <;> exact ⟨by decide, by decide, by decide⟩
theorem w3_ok : ∀ i, i < [49, 50, 122].length → 1 ≤ ([49, 50, 122] : List Nat).getD i 0 ∧ ([49, 50, 122] : List Nat).getD i 0 ≤ 126 ∧ (((3224186 : Int64) >>> ((nI (8 * ([49, 50, 122].length - 1 - i))).toInt64 &&& 63)) &&& 255) = lN (([49, 50, 122] : List Nat).getD i 0) := by
  intro i hi
  have hi : i < 3 := hi
  rcases (show i = 0 ∨ i = 1 ∨ i = 2 by omega) with rfl | rfl | rfl <;> exact ⟨by decide, by decide, by decide⟩
section M39
variable {sc : SC} {S : ST} {Q : Option AV → HM → Prop} {T : List Nat}
set_option maxRecDepth 100000 in
set_option maxHeartbeats 4000000 in
theorem sX10_readPlace (hT : TpT S T) {a : Nat} (ha : a ≤ T.length) (h : Q (some (aI (midI (rdP T a).1))) (mk (upX S 389 10 (nI (rdP T a).2)))) : CT sc mX10_readPlace [aR 389] (mk (upX S 389 10 (nI a))) Q := by
  refine S_of (by decide) rfl ?_
  show G sc mX10_readPlace 0 [some (aR 389), none, none, none] [] (mk (upX S 389 10 (nI a))) Q
  have hl := hT.2.1
  have z0 : (0 : Int64).toInt = 0 := rfl
  have z7 : (7 : Int64).toInt = 7 := rfl
  refine G_aload_n (pc := 0) dX10_readPlace_0 rfl rfl ?_
  refine G_ldc2 (pc := 1) dX10_readPlace_1 kX10_294 ?_
  refine G_iconst (pc := 4) (v := nI 4) dX10_readPlace_4 (by decide) ?_
  refine S_callV (av := [_, _]) (pc := 5) (z := mX10_oneOf) (ci := 9) dX10_readPlace_5 zX10_oneOf lX10_readPlace_296 rfl (by first | rfl | assumption) rfl rfl (sX10_oneOf (ws := [102, 101, 98, 97]) hT ha (by decide) w1_ok ⟨_, rfl, ?_⟩)
  rcases ho : on1 T a [102, 101, 98, 97] with _ | c
  · rw [onA_n ho]
    rw [rdP_0 ho] at h
    refine G_istore_n (pc := 8) dX10_readPlace_8 rfl (by decide) rfl ?_
    refine G_iload_n (pc := 9) dX10_readPlace_9 rfl rfl ?_
    refine T_if_ge (pc := 10) (tgt := 15) dX10_readPlace_10 (by decide) (fun c10 => absurd c10 (by decide)) (fun c10 => ?_)
    refine G_iconst (pc := 13) (v := (-1)) dX10_readPlace_13 (by decide) ?_
    refine S_iret (pc := 14) dX10_readPlace_14 rfl ?_
    exact h
  · rw [onA_s ho]
    have hc := on1_lt ho
    have hc : c < 4 := hc
    have hsk := on1_0 hT (by decide) ho
    have e2 := lk_b hT (sk T a + 1)
    have hs2 := sk_le (T := T) (a := sk T a + 1) (by omega)
    show G sc mX10_readPlace 8 [some (aR 389), none, none, none] [aI (nI c)] (mk (upX S 389 10 (nI (sk T a + 1)))) Q
    by_cases hc2 : c < 2
    · rw [rdP_1 ho hc2] at h
      have ed : (nxI T (sk T a + 1) - nI 48).toInt = (if lk T (sk T a + 1) = 0 then -1 else (lk T (sk T a + 1) : Int)) - 48 := by
        have z : (nI 48).toInt = 48 := rfl
        have q : (nxI T (sk T a + 1)).toInt = (if lk T (sk T a + 1) = 0 then -1 else (lk T (sk T a + 1) : Int)) := by
          unfold nxI
          split
          · rfl
          · exact nIt (by omega)
        have q2 : -1 ≤ (nxI T (sk T a + 1)).toInt ∧ (nxI T (sk T a + 1)).toInt ≤ 126 := by rw [q]; split <;> omega
        rw [sub_toInt (by rw [z]; omega) (by rw [z]; omega), q, z]
      refine G_istore_n (pc := 8) dX10_readPlace_8 rfl (by decide) rfl ?_
      refine G_iload_n (pc := 9) dX10_readPlace_9 rfl rfl ?_
      refine N_if_ge (pc := 10) (tgt := 15) dX10_readPlace_10 (by decide) (by omega) ?_
      refine G_iload_n (pc := 15) dX10_readPlace_15 rfl rfl ?_
      refine G_iconst (pc := 16) (v := nI 2) dX10_readPlace_16 (by decide) ?_
      refine N_icmp_ge (pc := 17) (tgt := 59) dX10_readPlace_17 (by decide) (by omega) (fun c17 => absurd c17 (by omega)) (fun c17 => ?_)
      refine G_aload_n (pc := 20) dX10_readPlace_20 rfl rfl ?_
      refine S_callV (av := []) (pc := 21) (z := mX10_next) (ci := 9) dX10_readPlace_21 zX10_next lX10_readPlace_291 rfl (by first | rfl | assumption) rfl rfl (sX10_next hT (by omega) ⟨_, rfl, ?_⟩)
      refine G_bipush (pc := 24) (v := nI 48) dX10_readPlace_24 (by decide) ?_
      refine G_isub (pc := 26) dX10_readPlace_26 ?_
      refine G_istore_n (pc := 27) dX10_readPlace_27 rfl (by decide) rfl ?_
      refine G_iload_n (pc := 28) dX10_readPlace_28 rfl rfl ?_
      refine G_i2l (pc := 29) dX10_readPlace_29 ?_
      refine G_lconst (pc := 30) (v := 0) dX10_readPlace_30 (by decide) ?_
      refine G_ldc2 (pc := 31) dX10_readPlace_31 kX10_300 ?_
      refine S_callS (av := [_, _, _]) (pc := 34) (z := mX10_in) dX10_readPlace_34 zX10_in lX10_readPlace_84 rfl (sX10_in ⟨_, rfl, ?_⟩)
      refine B_if_ne (pc := 37) (tgt := 42) dX10_readPlace_37 (by decide) (fun c37 => ?_) (fun c37 => ?_)
      · skip
        rw [decide_eq_true_iff, Int32.toInt_toInt64, z0, z7, ed] at c37
        have hne : ¬ lk T (sk T a + 1) = 0 := fun q => by rw [if_pos q] at c37; omega
        rw [if_neg hne] at c37
        rw [if_pos (by omega)] at h
        have eN : nxI T (sk T a + 1) - nI 48 = nI (lk T (sk T a + 1) - 48) := by
          unfold nxI
          rw [if_neg hne, pk_sub (by omega)]
        rw [eN]
        refine G_aload_n (pc := 42) dX10_readPlace_42 rfl rfl ?_
        refine G_dup (pc := 43) dX10_readPlace_43 rfl ?_
        refine S_getI (pc := 44) dX10_readPlace_44 fX10_288 rfl (by first | rfl | assumption) rfl ?_
        rw [tp_at]
        refine G_iconst (pc := 47) (v := nI 1) dX10_readPlace_47 (by decide) ?_
        refine N_iadd (pc := 48) dX10_readPlace_48 ?_
        refine S_putI (pc := 49) dX10_readPlace_49 fX10_288 (by decide) rfl (by first | rfl | assumption) rfl ?_
        refine G_bipush (pc := 52) (v := nI 8) dX10_readPlace_52 (by decide) ?_
        refine G_iload_n (pc := 54) dX10_readPlace_54 rfl rfl ?_
        refine N_imul (pc := 55) dX10_readPlace_55 ?_
        refine G_iload_n (pc := 56) dX10_readPlace_56 rfl rfl ?_
        refine N_iadd (pc := 57) dX10_readPlace_57 ?_
        refine S_iret (pc := 58) dX10_readPlace_58 rfl ?_
        rw [upX_u]
        exact h
      · skip
        rw [decide_eq_false_iff_not, Int32.toInt_toInt64, z0, z7, ed] at c37
        rw [if_neg (by split at c37 <;> omega)] at h
        refine G_iconst (pc := 40) (v := (-1)) dX10_readPlace_40 (by decide) ?_
        refine S_iret (pc := 41) dX10_readPlace_41 rfl ?_
        exact h
    · have K : ∀ (S2 : Nat) (o : Option Nat), midI (rdP T a).1 = (match o with | none => -1 | some w => nI w) → True := fun _ _ _ => trivial
      rcases ho2 : on1 T (sk T a + 1) [100, 119, 99, 115] with _ | k
      · rw [rdP_2 ho hc2 ho2] at h
        refine G_istore_n (pc := 8) dX10_readPlace_8 rfl (by decide) rfl ?_
        refine G_iload_n (pc := 9) dX10_readPlace_9 rfl rfl ?_
        refine N_if_ge (pc := 10) (tgt := 15) dX10_readPlace_10 (by decide) (by omega) ?_
        refine G_iload_n (pc := 15) dX10_readPlace_15 rfl rfl ?_
        refine G_iconst (pc := 16) (v := nI 2) dX10_readPlace_16 (by decide) ?_
        refine N_icmp_ge (pc := 17) (tgt := 59) dX10_readPlace_17 (by decide) (by omega) (fun c17 => ?_) (fun c17 => absurd c17 (by omega))
        refine G_aload_n (pc := 59) dX10_readPlace_59 rfl rfl ?_
        refine G_ldc2 (pc := 60) dX10_readPlace_60 kX10_302 ?_
        refine G_iconst (pc := 63) (v := nI 4) dX10_readPlace_63 (by decide) ?_
        refine S_callV (av := [_, _]) (pc := 64) (z := mX10_oneOf) (ci := 9) dX10_readPlace_64 zX10_oneOf lX10_readPlace_296 rfl (by first | rfl | assumption) rfl rfl (sX10_oneOf (ws := [100, 119, 99, 115]) hT (by omega) (by decide) w2_ok ⟨_, rfl, ?_⟩)
        rw [ho2, onA_n ho2]
        refine G_istore_n (pc := 67) dX10_readPlace_67 rfl (by decide) rfl ?_
        refine G_iload_n (pc := 68) dX10_readPlace_68 rfl rfl ?_
        refine T_if_ge (pc := 69) (tgt := 76) dX10_readPlace_69 (by decide) (fun c69 => absurd c69 (by decide)) (fun c69 => ?_)
        refine G_iconst (pc := 72) (v := (-1)) dX10_readPlace_72 (by decide) ?_
        refine G_goto (pc := 73) (tgt := 84) dX10_readPlace_73 (by decide) ?_
        refine G_istore_n (pc := 84) dX10_readPlace_84 rfl (by decide) rfl ?_
        refine G_iload_n (pc := 85) dX10_readPlace_85 rfl rfl ?_
        refine T_if_ge (pc := 86) (tgt := 93) dX10_readPlace_86 (by decide) (fun c86 => absurd c86 (by decide)) (fun c86 => ?_)
        refine G_iconst (pc := 89) (v := (-1)) dX10_readPlace_89 (by decide) ?_
        refine G_goto (pc := 90) (tgt := 108) dX10_readPlace_90 (by decide) ?_
        refine S_iret (pc := 108) dX10_readPlace_108 rfl ?_
        exact h
      · have hk := on1_lt ho2
        have hk : k < 4 := hk
        have hsk2 := on1_0 hT (by decide) ho2
        rcases ho3 : on1 T (sk T (sk T a + 1) + 1) [49, 50, 122] with _ | w
        · rw [rdP_3 ho hc2 ho2 ho3] at h
          refine G_istore_n (pc := 8) dX10_readPlace_8 rfl (by decide) rfl ?_
          refine G_iload_n (pc := 9) dX10_readPlace_9 rfl rfl ?_
          refine N_if_ge (pc := 10) (tgt := 15) dX10_readPlace_10 (by decide) (by omega) ?_
          refine G_iload_n (pc := 15) dX10_readPlace_15 rfl rfl ?_
          refine G_iconst (pc := 16) (v := nI 2) dX10_readPlace_16 (by decide) ?_
          refine N_icmp_ge (pc := 17) (tgt := 59) dX10_readPlace_17 (by decide) (by omega) (fun c17 => ?_) (fun c17 => absurd c17 (by omega))
          refine G_aload_n (pc := 59) dX10_readPlace_59 rfl rfl ?_
          refine G_ldc2 (pc := 60) dX10_readPlace_60 kX10_302 ?_
          refine G_iconst (pc := 63) (v := nI 4) dX10_readPlace_63 (by decide) ?_
          refine S_callV (av := [_, _]) (pc := 64) (z := mX10_oneOf) (ci := 9) dX10_readPlace_64 zX10_oneOf lX10_readPlace_296 rfl (by first | rfl | assumption) rfl rfl (sX10_oneOf (ws := [100, 119, 99, 115]) hT (by omega) (by decide) w2_ok ⟨_, rfl, ?_⟩)
          rw [ho2, onA_s ho2, show midI (some k) = nI k from rfl]
          refine G_istore_n (pc := 67) dX10_readPlace_67 rfl (by decide) rfl ?_
          refine G_iload_n (pc := 68) dX10_readPlace_68 rfl rfl ?_
          refine N_if_ge (pc := 69) (tgt := 76) dX10_readPlace_69 (by decide) (by omega) ?_
          refine G_aload_n (pc := 76) dX10_readPlace_76 rfl rfl ?_
          refine G_ldc2 (pc := 77) dX10_readPlace_77 kX10_304 ?_
          refine G_iconst (pc := 80) (v := nI 3) dX10_readPlace_80 (by decide) ?_
          refine S_callV (av := [_, _]) (pc := 81) (z := mX10_oneOf) (ci := 9) dX10_readPlace_81 zX10_oneOf lX10_readPlace_296 rfl (by first | rfl | assumption) rfl rfl (sX10_oneOf (ws := [49, 50, 122]) hT (by omega) (by decide) w3_ok ⟨_, rfl, ?_⟩)
          rw [ho3, onA_n ho3]
          refine G_istore_n (pc := 84) dX10_readPlace_84 rfl (by decide) rfl ?_
          refine G_iload_n (pc := 85) dX10_readPlace_85 rfl rfl ?_
          refine T_if_ge (pc := 86) (tgt := 93) dX10_readPlace_86 (by decide) (fun c86 => absurd c86 (by decide)) (fun c86 => ?_)
          refine G_iconst (pc := 89) (v := (-1)) dX10_readPlace_89 (by decide) ?_
          refine G_goto (pc := 90) (tgt := 108) dX10_readPlace_90 (by decide) ?_
          refine S_iret (pc := 108) dX10_readPlace_108 rfl ?_
          exact h
        · rw [rdP_4 ho hc2 ho2 ho3] at h
          have hw := on1_lt ho3
          have hw : w < 3 := hw
          refine G_istore_n (pc := 8) dX10_readPlace_8 rfl (by decide) rfl ?_
          refine G_iload_n (pc := 9) dX10_readPlace_9 rfl rfl ?_
          refine N_if_ge (pc := 10) (tgt := 15) dX10_readPlace_10 (by decide) (by omega) ?_
          refine G_iload_n (pc := 15) dX10_readPlace_15 rfl rfl ?_
          refine G_iconst (pc := 16) (v := nI 2) dX10_readPlace_16 (by decide) ?_
          refine N_icmp_ge (pc := 17) (tgt := 59) dX10_readPlace_17 (by decide) (by omega) (fun c17 => ?_) (fun c17 => absurd c17 (by omega))
          refine G_aload_n (pc := 59) dX10_readPlace_59 rfl rfl ?_
          refine G_ldc2 (pc := 60) dX10_readPlace_60 kX10_302 ?_
          refine G_iconst (pc := 63) (v := nI 4) dX10_readPlace_63 (by decide) ?_
          refine S_callV (av := [_, _]) (pc := 64) (z := mX10_oneOf) (ci := 9) dX10_readPlace_64 zX10_oneOf lX10_readPlace_296 rfl (by first | rfl | assumption) rfl rfl (sX10_oneOf (ws := [100, 119, 99, 115]) hT (by omega) (by decide) w2_ok ⟨_, rfl, ?_⟩)
          rw [ho2, onA_s ho2, show midI (some k) = nI k from rfl]
          refine G_istore_n (pc := 67) dX10_readPlace_67 rfl (by decide) rfl ?_
          refine G_iload_n (pc := 68) dX10_readPlace_68 rfl rfl ?_
          refine N_if_ge (pc := 69) (tgt := 76) dX10_readPlace_69 (by decide) (by omega) ?_
          refine G_aload_n (pc := 76) dX10_readPlace_76 rfl rfl ?_
          refine G_ldc2 (pc := 77) dX10_readPlace_77 kX10_304 ?_
          refine G_iconst (pc := 80) (v := nI 3) dX10_readPlace_80 (by decide) ?_
          refine S_callV (av := [_, _]) (pc := 81) (z := mX10_oneOf) (ci := 9) dX10_readPlace_81 zX10_oneOf lX10_readPlace_296 rfl (by first | rfl | assumption) rfl rfl (sX10_oneOf (ws := [49, 50, 122]) hT (by omega) (by decide) w3_ok ⟨_, rfl, ?_⟩)
          rw [ho3, onA_s ho3, show midI (some w) = nI w from rfl]
          refine G_istore_n (pc := 84) dX10_readPlace_84 rfl (by decide) rfl ?_
          refine G_iload_n (pc := 85) dX10_readPlace_85 rfl rfl ?_
          refine N_if_ge (pc := 86) (tgt := 93) dX10_readPlace_86 (by decide) (by omega) ?_
          refine G_bipush (pc := 93) (v := nI 16) dX10_readPlace_93 (by decide) ?_
          refine G_bipush (pc := 95) (v := nI 6) dX10_readPlace_95 (by decide) ?_
          refine G_iload_n (pc := 97) dX10_readPlace_97 rfl rfl ?_
          refine N_imul (pc := 98) dX10_readPlace_98 ?_
          refine N_iadd (pc := 99) dX10_readPlace_99 ?_
          refine G_iconst (pc := 100) (v := nI 3) dX10_readPlace_100 (by decide) ?_
          refine G_iload_n (pc := 101) dX10_readPlace_101 rfl rfl ?_
          refine G_iconst (pc := 102) (v := nI 2) dX10_readPlace_102 (by decide) ?_
          refine N_isub (pc := 103) dX10_readPlace_103 (by omega) ?_
          refine N_imul (pc := 104) dX10_readPlace_104 ?_
          refine N_iadd (pc := 105) dX10_readPlace_105 ?_
          refine G_iload_n (pc := 106) dX10_readPlace_106 rfl rfl ?_
          refine N_iadd (pc := 107) dX10_readPlace_107 ?_
          refine S_iret (pc := 108) dX10_readPlace_108 rfl ?_
          exact h
/-- how a place ends: the number, where the reader stands -/
theorem rdP_ok (hT : TpT S T) {a : Nat} (ha : a ≤ T.length) : (∀ p, (rdP T a).1 = some p → p < 40) ∧ (rdP T a).2 ≤ T.length := by
  have h1 := sk_le ha
  rcases ho : on1 T a [102, 101, 98, 97] with _ | c
  · rw [rdP_0 ho]
    exact ⟨fun p hp => (by cases hp), h1⟩
  · have hc := on1_lt ho
    have hc : c < 4 := hc
    have hsk := on1_0 hT (by decide) ho
    have hs2 := sk_le (T := T) (a := sk T a + 1) (by omega)
    by_cases hc2 : c < 2
    · rw [rdP_1 ho hc2]
      have e2 := lk_b hT (sk T a + 1)
      split
      · rename_i q
        have : sk T (sk T a + 1) < T.length := by
          rcases Nat.lt_or_ge (sk T (sk T a + 1)) T.length with z | z
          · exact z
          · have := e2.2.mpr (by omega); omega
        exact ⟨fun p hp => by cases hp; omega, by dsimp only; omega⟩
      · exact ⟨fun p hp => (by cases hp), hs2⟩
    · rcases ho2 : on1 T (sk T a + 1) [100, 119, 99, 115] with _ | k
      · rw [rdP_2 ho hc2 ho2]
        exact ⟨fun p hp => (by cases hp), hs2⟩
      · have hk := on1_lt ho2
        have hk : k < 4 := hk
        have hsk2 := on1_0 hT (by decide) ho2
        have hs3 := sk_le (T := T) (a := sk T (sk T a + 1) + 1) (by omega)
        rcases ho3 : on1 T (sk T (sk T a + 1) + 1) [49, 50, 122] with _ | w
        · rw [rdP_3 ho hc2 ho2 ho3]
          exact ⟨fun p hp => (by cases hp), hs3⟩
        · rw [rdP_4 ho hc2 ho2 ho3]
          have hw := on1_lt ho3
          have hw : w < 3 := hw
          have hsk3 := on1_0 hT (by decide) ho3
          exact ⟨fun p hp => by cases hp; omega, by dsimp only; omega⟩
/-- typed bytes up to the closing sign: how many, what number, where -/
def tyL (T : List Nat) : Nat → Nat → Nat → Nat → Nat × Nat × Nat
  | 0, m, v, a => (m, v, a)
  | f + 1, m, v, a => if a < T.length ∧ ¬ T.getD a 0 = 34 then tyL T f (m + 1) (256 * v + T.getD a 0) (a + 1) else (m, v, a)
def rdT (T : List Nat) (a : Nat) : Option Nat × Nat :=
  if (tyL T 3 0 0 (a + 1)).1 = 0 ∨ (tyL T 3 0 0 (a + 1)).2.2 = T.length ∨ ¬ T.getD (tyL T 3 0 0 (a + 1)).2.2 0 = 34 then (none, (tyL T 3 0 0 (a + 1)).2.2) else (some (16777216 * (tyL T 3 0 0 (a + 1)).1 + (tyL T 3 0 0 (a + 1)).2.1), (tyL T 3 0 0 (a + 1)).2.2 + 1)
theorem tyL_ok (hT : TpT S T) : ∀ (f m v a : Nat), a ≤ T.length → v < 256 ^ m → (tyL T f m v a).1 ≤ m + f ∧ m ≤ (tyL T f m v a).1 ∧ (tyL T f m v a).2.1 < 256 ^ (tyL T f m v a).1 ∧ (tyL T f m v a).2.2 ≤ T.length
  | 0, m, v, a, h1, h2 => ⟨Nat.le_refl _, Nat.le_refl _, h2, h1⟩
  | f + 1, m, v, a, h1, h2 => by
    unfold tyL
    split
    · rename_i q
      have hb := hT.2.2 a q.1
      have := tyL_ok hT f (m + 1) (256 * v + T.getD a 0) (a + 1) (by omega) (by rw [Nat.pow_succ]; omega)
      exact ⟨by omega, by omega, this.2.2.1, this.2.2.2⟩
    · exact ⟨by dsimp only; omega, Nat.le_refl _, h2, h1⟩
set_option maxRecDepth 100000 in
set_option maxHeartbeats 4000000 in
theorem readTyped_e (hT : TpT S T) {m v a : Nat} (ha : a ≤ T.length) (hm : m ≤ 3) (hv : v < 16777216) (h : Q (some (aI (midI (if m = 0 ∨ a = T.length ∨ ¬ T.getD a 0 = 34 then (none, a) else (some (16777216 * m + v), a + 1)).1))) (mk (upX S 389 10 (nI (if m = 0 ∨ a = T.length ∨ ¬ T.getD a 0 = 34 then ((none : Option Nat), a) else (some (16777216 * m + v), a + 1)).2)))) : G sc mX10_readTyped 76 [some (aR 389), some (aI (nI m)), some (aI (nI v))] [] (mk (upX S 389 10 (nI a))) Q := by
  have hl := hT.2.1
  have hk9 : (16777216 : Int32) = nI 16777216 := rfl
  by_cases hc : m = 0 ∨ a = T.length ∨ ¬ T.getD a 0 = 34
  · rw [if_pos hc] at h
    by_cases hb : a < T.length
    · have hbb := hT.2.2 a hb
      refine G_iload_n (pc := 76) dX10_readTyped_76 rfl rfl ?_
      refine N_if_eq (pc := 77) (tgt := 105) dX10_readTyped_77 (by decide) (by omega) (fun c77 => ?_) (fun c77 => ?_)
      · skip
        refine G_iconst (pc := 105) (v := (-1)) dX10_readTyped_105 (by decide) ?_
        refine S_iret (pc := 106) dX10_readTyped_106 rfl ?_
        exact h
      · skip
        refine G_aload_n (pc := 80) dX10_readTyped_80 rfl rfl ?_
        refine S_getI (pc := 81) dX10_readTyped_81 fX10_288 rfl (by first | rfl | assumption) rfl ?_
        rw [tp_at]
        refine G_aload_n (pc := 84) dX10_readTyped_84 rfl rfl ?_
        refine S_getI (pc := 85) dX10_readTyped_85 fX10_96 rfl (by first | rfl | assumption) rfl ?_
        rw [tp_n hT]
        refine N_icmp_eq (pc := 88) (tgt := 105) dX10_readTyped_88 (by decide) (by omega) (fun c88 => ?_) (fun c88 => ?_)
        · skip
          refine G_iconst (pc := 105) (v := (-1)) dX10_readTyped_105 (by decide) ?_
          refine S_iret (pc := 106) dX10_readTyped_106 rfl ?_
          exact h
        · skip
          refine G_aload_n (pc := 91) dX10_readTyped_91 rfl rfl ?_
          refine S_getR (pc := 92) (b := 396) dX10_readTyped_92 fX10_28 rfl rfl (by first | rfl | assumption) rfl rfl ?_
          refine G_aload_n (pc := 95) dX10_readTyped_95 rfl rfl ?_
          refine S_getI (pc := 96) dX10_readTyped_96 fX10_288 rfl (by first | rfl | assumption) rfl ?_
          rw [tp_at]
          refine N_iald (pc := 99) dX10_readTyped_99 (by first | rfl | assumption) (by first | rfl | assumption) (by omega) ?_
          rw [tp_a hT hb]
          refine G_bipush (pc := 100) (v := nI 34) dX10_readTyped_100 (by decide) ?_
          refine N_icmp_eq (pc := 102) (tgt := 107) dX10_readTyped_102 (by decide) (by omega) (fun c102 => absurd c102 (by omega)) (fun c102 => ?_)
          refine G_iconst (pc := 105) (v := (-1)) dX10_readTyped_105 (by decide) ?_
          refine S_iret (pc := 106) dX10_readTyped_106 rfl ?_
          exact h
    · skip
      refine G_iload_n (pc := 76) dX10_readTyped_76 rfl rfl ?_
      refine N_if_eq (pc := 77) (tgt := 105) dX10_readTyped_77 (by decide) (by omega) (fun c77 => ?_) (fun c77 => ?_)
      · skip
        refine G_iconst (pc := 105) (v := (-1)) dX10_readTyped_105 (by decide) ?_
        refine S_iret (pc := 106) dX10_readTyped_106 rfl ?_
        exact h
      · skip
        refine G_aload_n (pc := 80) dX10_readTyped_80 rfl rfl ?_
        refine S_getI (pc := 81) dX10_readTyped_81 fX10_288 rfl (by first | rfl | assumption) rfl ?_
        rw [tp_at]
        refine G_aload_n (pc := 84) dX10_readTyped_84 rfl rfl ?_
        refine S_getI (pc := 85) dX10_readTyped_85 fX10_96 rfl (by first | rfl | assumption) rfl ?_
        rw [tp_n hT]
        refine N_icmp_eq (pc := 88) (tgt := 105) dX10_readTyped_88 (by decide) (by omega) (fun c88 => ?_) (fun c88 => absurd c88 (by omega))
        refine G_iconst (pc := 105) (v := (-1)) dX10_readTyped_105 (by decide) ?_
        refine S_iret (pc := 106) dX10_readTyped_106 rfl ?_
        exact h
  · rw [if_neg hc] at h
    have hb : a < T.length := by omega
    have hbb := hT.2.2 a hb
    refine G_iload_n (pc := 76) dX10_readTyped_76 rfl rfl ?_
    refine N_if_eq (pc := 77) (tgt := 105) dX10_readTyped_77 (by decide) (by omega) (fun c77 => absurd c77 (by omega)) (fun c77 => ?_)
    refine G_aload_n (pc := 80) dX10_readTyped_80 rfl rfl ?_
    refine S_getI (pc := 81) dX10_readTyped_81 fX10_288 rfl (by first | rfl | assumption) rfl ?_
    rw [tp_at]
    refine G_aload_n (pc := 84) dX10_readTyped_84 rfl rfl ?_
    refine S_getI (pc := 85) dX10_readTyped_85 fX10_96 rfl (by first | rfl | assumption) rfl ?_
    rw [tp_n hT]
    refine N_icmp_eq (pc := 88) (tgt := 105) dX10_readTyped_88 (by decide) (by omega) (fun c88 => absurd c88 (by omega)) (fun c88 => ?_)
    refine G_aload_n (pc := 91) dX10_readTyped_91 rfl rfl ?_
    refine S_getR (pc := 92) (b := 396) dX10_readTyped_92 fX10_28 rfl rfl (by first | rfl | assumption) rfl rfl ?_
    refine G_aload_n (pc := 95) dX10_readTyped_95 rfl rfl ?_
    refine S_getI (pc := 96) dX10_readTyped_96 fX10_288 rfl (by first | rfl | assumption) rfl ?_
    rw [tp_at]
    refine N_iald (pc := 99) dX10_readTyped_99 (by first | rfl | assumption) (by first | rfl | assumption) (by omega) ?_
    rw [tp_a hT hb]
    refine G_bipush (pc := 100) (v := nI 34) dX10_readTyped_100 (by decide) ?_
    refine N_icmp_eq (pc := 102) (tgt := 107) dX10_readTyped_102 (by decide) (by omega) (fun c102 => ?_) (fun c102 => absurd c102 (by omega))
    refine G_aload_n (pc := 107) dX10_readTyped_107 rfl rfl ?_
    refine G_dup (pc := 108) dX10_readTyped_108 rfl ?_
    refine S_getI (pc := 109) dX10_readTyped_109 fX10_288 rfl (by first | rfl | assumption) rfl ?_
    rw [tp_at]
    refine G_iconst (pc := 112) (v := nI 1) dX10_readTyped_112 (by decide) ?_
    refine N_iadd (pc := 113) dX10_readTyped_113 ?_
    refine S_putI (pc := 114) dX10_readTyped_114 fX10_288 (by decide) rfl (by first | rfl | assumption) rfl ?_
    refine G_ldc (pc := 117) dX10_readTyped_117 kX10_149 ?_
    rw [hk9]
    refine G_iload_n (pc := 119) dX10_readTyped_119 rfl rfl ?_
    refine N_imul (pc := 120) dX10_readTyped_120 ?_
    refine G_iload_n (pc := 121) dX10_readTyped_121 rfl rfl ?_
    refine N_iadd (pc := 122) dX10_readTyped_122 ?_
    refine S_iret (pc := 123) dX10_readTyped_123 rfl ?_
    rw [upX_u]
    exact h
set_option maxRecDepth 100000 in
set_option maxHeartbeats 4000000 in
theorem readTyped_lp (hT : TpT S T) : ∀ (f m v a : Nat), m + f = 3 → a ≤ T.length → v < 256 ^ m → (∀ m' v' a', (m', v', a') = tyL T f m v a → G sc mX10_readTyped 76 [some (aR 389), some (aI (nI m')), some (aI (nI v'))] [] (mk (upX S 389 10 (nI a'))) Q) →
      G sc mX10_readTyped 14 [some (aR 389), some (aI (nI m)), some (aI (nI v))] [] (mk (upX S 389 10 (nI a))) Q := by
  have hl := hT.2.1
  intro f
  induction f with
  | zero =>
    intro m v a hm ha hv h
    have h := h m v a rfl
    by_cases hb : a < T.length
    · have hbb := hT.2.2 a hb
      refine G_aload_n (pc := 14) dX10_readTyped_14 rfl rfl ?_
      refine S_getI (pc := 15) dX10_readTyped_15 fX10_288 rfl (by first | rfl | assumption) rfl ?_
      rw [tp_at]
      refine G_aload_n (pc := 18) dX10_readTyped_18 rfl rfl ?_
      refine S_getI (pc := 19) dX10_readTyped_19 fX10_96 rfl (by first | rfl | assumption) rfl ?_
      rw [tp_n hT]
      refine N_icmp_ge (pc := 22) (tgt := 76) dX10_readTyped_22 (by decide) (by omega) (fun c22 => absurd c22 (by omega)) (fun c22 => ?_)
      refine G_aload_n (pc := 25) dX10_readTyped_25 rfl rfl ?_
      refine S_getR (pc := 26) (b := 396) dX10_readTyped_26 fX10_28 rfl rfl (by first | rfl | assumption) rfl rfl ?_
      refine G_aload_n (pc := 29) dX10_readTyped_29 rfl rfl ?_
      refine S_getI (pc := 30) dX10_readTyped_30 fX10_288 rfl (by first | rfl | assumption) rfl ?_
      rw [tp_at]
      refine N_iald (pc := 33) dX10_readTyped_33 (by first | rfl | assumption) (by first | rfl | assumption) (by omega) ?_
      rw [tp_a hT hb]
      refine G_bipush (pc := 34) (v := nI 34) dX10_readTyped_34 (by decide) ?_
      refine N_icmp_eq (pc := 36) (tgt := 76) dX10_readTyped_36 (by decide) (by omega) (fun c36 => ?_) (fun c36 => ?_)
      · skip
        exact h
      · skip
        refine G_iload_n (pc := 39) dX10_readTyped_39 rfl rfl ?_
        refine G_iconst (pc := 40) (v := nI 3) dX10_readTyped_40 (by decide) ?_
        refine N_icmp_ge (pc := 41) (tgt := 76) dX10_readTyped_41 (by decide) (by omega) (fun c41 => ?_) (fun c41 => absurd c41 (by omega))
        exact h
    · skip
      refine G_aload_n (pc := 14) dX10_readTyped_14 rfl rfl ?_
      refine S_getI (pc := 15) dX10_readTyped_15 fX10_288 rfl (by first | rfl | assumption) rfl ?_
      rw [tp_at]
      refine G_aload_n (pc := 18) dX10_readTyped_18 rfl rfl ?_
      refine S_getI (pc := 19) dX10_readTyped_19 fX10_96 rfl (by first | rfl | assumption) rfl ?_
      rw [tp_n hT]
      refine N_icmp_ge (pc := 22) (tgt := 76) dX10_readTyped_22 (by decide) (by omega) (fun c22 => ?_) (fun c22 => absurd c22 (by omega))
      exact h
  | succ f ih =>
    intro m v a hm ha hv h
    have hm2 : 256 ^ m ≤ 65536 := by rcases (show m = 0 ∨ m = 1 ∨ m = 2 by omega) with rfl | rfl | rfl <;> decide
    by_cases hb : a < T.length ∧ ¬ T.getD a 0 = 34
    · have hbb := hT.2.2 a hb.1
      have e : tyL T (f + 1) m v a = tyL T f (m + 1) (256 * v + T.getD a 0) (a + 1) := by conv => lhs; unfold tyL; rw [if_pos hb]
      rw [e] at h
      refine G_aload_n (pc := 14) dX10_readTyped_14 rfl rfl ?_
      refine S_getI (pc := 15) dX10_readTyped_15 fX10_288 rfl (by first | rfl | assumption) rfl ?_
      rw [tp_at]
      refine G_aload_n (pc := 18) dX10_readTyped_18 rfl rfl ?_
      refine S_getI (pc := 19) dX10_readTyped_19 fX10_96 rfl (by first | rfl | assumption) rfl ?_
      rw [tp_n hT]
      refine N_icmp_ge (pc := 22) (tgt := 76) dX10_readTyped_22 (by decide) (by omega) (fun c22 => absurd c22 (by omega)) (fun c22 => ?_)
      refine G_aload_n (pc := 25) dX10_readTyped_25 rfl rfl ?_
      refine S_getR (pc := 26) (b := 396) dX10_readTyped_26 fX10_28 rfl rfl (by first | rfl | assumption) rfl rfl ?_
      refine G_aload_n (pc := 29) dX10_readTyped_29 rfl rfl ?_
      refine S_getI (pc := 30) dX10_readTyped_30 fX10_288 rfl (by first | rfl | assumption) rfl ?_
      rw [tp_at]
      refine N_iald (pc := 33) dX10_readTyped_33 (by first | rfl | assumption) (by first | rfl | assumption) (by omega) ?_
      rw [tp_a hT hb.1]
      refine G_bipush (pc := 34) (v := nI 34) dX10_readTyped_34 (by decide) ?_
      refine N_icmp_eq (pc := 36) (tgt := 76) dX10_readTyped_36 (by decide) (by omega) (fun c36 => absurd c36 (by omega)) (fun c36 => ?_)
      refine G_iload_n (pc := 39) dX10_readTyped_39 rfl rfl ?_
      refine G_iconst (pc := 40) (v := nI 3) dX10_readTyped_40 (by decide) ?_
      refine N_icmp_ge (pc := 41) (tgt := 76) dX10_readTyped_41 (by decide) (by omega) (fun c41 => absurd c41 (by omega)) (fun c41 => ?_)
      refine G_sipush (pc := 44) (v := nI 256) dX10_readTyped_44 (by decide) ?_
      refine G_iload_n (pc := 47) dX10_readTyped_47 rfl rfl ?_
      refine N_imul (pc := 48) dX10_readTyped_48 ?_
      refine G_aload_n (pc := 49) dX10_readTyped_49 rfl rfl ?_
      refine S_getR (pc := 50) (b := 396) dX10_readTyped_50 fX10_28 rfl rfl (by first | rfl | assumption) rfl rfl ?_
      refine G_aload_n (pc := 53) dX10_readTyped_53 rfl rfl ?_
      refine S_getI (pc := 54) dX10_readTyped_54 fX10_288 rfl (by first | rfl | assumption) rfl ?_
      rw [tp_at]
      refine N_iald (pc := 57) dX10_readTyped_57 (by first | rfl | assumption) (by first | rfl | assumption) (by omega) ?_
      rw [tp_a hT hb.1]
      refine N_iadd (pc := 58) dX10_readTyped_58 ?_
      refine G_istore_n (pc := 59) dX10_readTyped_59 rfl (by decide) rfl ?_
      refine N_iinc (pc := 60) dX10_readTyped_60 rfl (by decide) rfl ?_
      refine G_aload_n (pc := 63) dX10_readTyped_63 rfl rfl ?_
      refine G_dup (pc := 64) dX10_readTyped_64 rfl ?_
      refine S_getI (pc := 65) dX10_readTyped_65 fX10_288 rfl (by first | rfl | assumption) rfl ?_
      rw [tp_at]
      refine G_iconst (pc := 68) (v := nI 1) dX10_readTyped_68 (by decide) ?_
      refine N_iadd (pc := 69) dX10_readTyped_69 ?_
      refine S_putI (pc := 70) dX10_readTyped_70 fX10_288 (by decide) rfl (by first | rfl | assumption) rfl ?_
      refine G_goto (pc := 73) (tgt := 14) dX10_readTyped_73 (by decide) ?_
      rw [upX_u]
      exact ih (m + 1) _ (a + 1) (by omega) (by omega) (by rw [Nat.pow_succ]; omega) h
    · have e : tyL T (f + 1) m v a = (m, v, a) := by conv => lhs; unfold tyL; rw [if_neg hb]
      rw [e] at h
      have h := h m v a rfl
      by_cases hb2 : a < T.length
      · have hbb := hT.2.2 a hb2
        refine G_aload_n (pc := 14) dX10_readTyped_14 rfl rfl ?_
        refine S_getI (pc := 15) dX10_readTyped_15 fX10_288 rfl (by first | rfl | assumption) rfl ?_
        rw [tp_at]
        refine G_aload_n (pc := 18) dX10_readTyped_18 rfl rfl ?_
        refine S_getI (pc := 19) dX10_readTyped_19 fX10_96 rfl (by first | rfl | assumption) rfl ?_
        rw [tp_n hT]
        refine N_icmp_ge (pc := 22) (tgt := 76) dX10_readTyped_22 (by decide) (by omega) (fun c22 => absurd c22 (by omega)) (fun c22 => ?_)
        refine G_aload_n (pc := 25) dX10_readTyped_25 rfl rfl ?_
        refine S_getR (pc := 26) (b := 396) dX10_readTyped_26 fX10_28 rfl rfl (by first | rfl | assumption) rfl rfl ?_
        refine G_aload_n (pc := 29) dX10_readTyped_29 rfl rfl ?_
        refine S_getI (pc := 30) dX10_readTyped_30 fX10_288 rfl (by first | rfl | assumption) rfl ?_
        rw [tp_at]
        refine N_iald (pc := 33) dX10_readTyped_33 (by first | rfl | assumption) (by first | rfl | assumption) (by omega) ?_
        rw [tp_a hT hb2]
        refine G_bipush (pc := 34) (v := nI 34) dX10_readTyped_34 (by decide) ?_
        refine N_icmp_eq (pc := 36) (tgt := 76) dX10_readTyped_36 (by decide) (by omega) (fun c36 => ?_) (fun c36 => absurd c36 (by omega))
        exact h
      · skip
        refine G_aload_n (pc := 14) dX10_readTyped_14 rfl rfl ?_
        refine S_getI (pc := 15) dX10_readTyped_15 fX10_288 rfl (by first | rfl | assumption) rfl ?_
        rw [tp_at]
        refine G_aload_n (pc := 18) dX10_readTyped_18 rfl rfl ?_
        refine S_getI (pc := 19) dX10_readTyped_19 fX10_96 rfl (by first | rfl | assumption) rfl ?_
        rw [tp_n hT]
        refine N_icmp_ge (pc := 22) (tgt := 76) dX10_readTyped_22 (by decide) (by omega) (fun c22 => ?_) (fun c22 => absurd c22 (by omega))
        exact h
set_option maxRecDepth 100000 in
set_option maxHeartbeats 4000000 in
theorem sX10_readTyped (hT : TpT S T) {a : Nat} (ha : a < T.length) (h : Q (some (aI (midI (rdT T a).1))) (mk (upX S 389 10 (nI (rdT T a).2)))) : CT sc mX10_readTyped [aR 389] (mk (upX S 389 10 (nI a))) Q := by
  refine S_of (by decide) rfl ?_
  show G sc mX10_readTyped 0 [some (aR 389), none, none] [] (mk (upX S 389 10 (nI a))) Q
  have hl := hT.2.1
  have ok := tyL_ok hT 3 0 0 (a + 1) (by omega) (by decide)
  refine G_aload_n (pc := 0) dX10_readTyped_0 rfl rfl ?_
  refine G_dup (pc := 1) dX10_readTyped_1 rfl ?_
  refine S_getI (pc := 2) dX10_readTyped_2 fX10_288 rfl (by first | rfl | assumption) rfl ?_
  rw [tp_at]
  refine G_iconst (pc := 5) (v := nI 1) dX10_readTyped_5 (by decide) ?_
  refine N_iadd (pc := 6) dX10_readTyped_6 ?_
  refine S_putI (pc := 7) dX10_readTyped_7 fX10_288 (by decide) rfl (by first | rfl | assumption) rfl ?_
  refine G_iconst (pc := 10) (v := nI 0) dX10_readTyped_10 (by decide) ?_
  refine G_istore_n (pc := 11) dX10_readTyped_11 rfl (by decide) rfl ?_
  refine G_iconst (pc := 12) (v := nI 0) dX10_readTyped_12 (by decide) ?_
  refine G_istore_n (pc := 13) dX10_readTyped_13 rfl (by decide) rfl ?_
  rw [upX_u]
  refine readTyped_lp hT 3 0 0 (a + 1) (by omega) (by omega) (by decide) (fun m v b e => ?_)
  unfold rdT at h
  rw [← e] at h ok
  dsimp only at h ok
  refine readTyped_e hT ok.2.2.2 (by omega) ?_ h
  have : 256 ^ m ≤ 16777216 := by rcases (show m = 0 ∨ m = 1 ∨ m = 2 ∨ m = 3 by omega) with rfl | rfl | rfl | rfl <;> decide
  omega
/-- how a cut's turn is told -/
def tuN (T : List Nat) (a : Nat) : Nat := if lk T a = 117 then 1 else if lk T a = 108 then 2 else 0
def rdC (T : List Nat) (a : Nat) : Option Nat × Nat := match rdP T a with
  | (none, b) => (none, b)
  | (some f, b) => if lk T b = 44 then (match rdP T (sk T b + 1) with
    | (none, c) => (none, c)
    | (some t, c) => (some (120 * f + 3 * t + tuN T c), sk T c + (if 0 < tuN T c then 1 else 0))) else (none, sk T b)
theorem rdC_0 {a b : Nat} (h : rdP T a = (none, b)) : rdC T a = (none, b) := by unfold rdC; rw [h]
theorem rdC_1 {a f b : Nat} (h : rdP T a = (some f, b)) (h2 : ¬ lk T b = 44) : rdC T a = (none, sk T b) := by unfold rdC; rw [h]; dsimp only; rw [if_neg h2]
theorem rdC_2 {a f b c : Nat} (h : rdP T a = (some f, b)) (h2 : lk T b = 44) (h3 : rdP T (sk T b + 1) = (none, c)) : rdC T a = (none, c) := by unfold rdC; rw [h]; dsimp only; rw [if_pos h2, h3]
theorem rdC_3 {a f b t c : Nat} (h : rdP T a = (some f, b)) (h2 : lk T b = 44) (h3 : rdP T (sk T b + 1) = (some t, c)) : rdC T a = (some (120 * f + 3 * t + tuN T c), sk T c + (if 0 < tuN T c then 1 else 0)) := by unfold rdC; rw [h]; dsimp only; rw [if_pos h2, h3]
theorem nx_eq (hT : TpT S T) {a c : Nat} (hc : 1 ≤ c ∧ c ≤ 126) : (nxI T a).toInt = (nI c).toInt ↔ lk T a = c := by
  have := lk_b hT a
  rw [nIt (by omega)]
  unfold nxI
  split
  · have z : (-1 : Int32).toInt = -1 := rfl
    rw [z]; omega
  · rw [nIt (by omega)]; omega
theorem lk_sk2 (hT : TpT S T) {a : Nat} (h : ¬ lk T a = 0) : sk T a < T.length := by
  rcases Nat.lt_or_ge (sk T a) T.length with q | q
  · exact q
  · exact absurd ((lk_b hT a).2.mpr (by omega)) h
set_option maxRecDepth 100000 in
set_option maxHeartbeats 4000000 in
theorem sX10_readCut (hT : TpT S T) {a : Nat} (ha : a ≤ T.length) (h : Q (some (aI (midI (rdC T a).1))) (mk (upX S 389 10 (nI (rdC T a).2)))) : CT sc mX10_readCut [aR 389] (mk (upX S 389 10 (nI a))) Q := by
  refine S_of (by decide) rfl ?_
  show G sc mX10_readCut 0 [some (aR 389), none, none, none] [] (mk (upX S 389 10 (nI a))) Q
  have hl := hT.2.1
  have ok := rdP_ok hT ha
  refine G_aload_n (pc := 0) dX10_readCut_0 rfl rfl ?_
  refine S_callV (av := []) (pc := 1) (z := mX10_readPlace) (ci := 9) dX10_readCut_1 zX10_readPlace lX10_readCut_306 rfl (by first | rfl | assumption) rfl rfl (sX10_readPlace hT ha ⟨_, rfl, ?_⟩)
  rcases hr : rdP T a with ⟨_ | f, b⟩
  · rw [rdC_0 hr] at h
    show G sc mX10_readCut 4 [some (aR 389), none, none, none] [aI (-1)] (mk (upX S 389 10 (nI b))) Q
    refine G_istore_n (pc := 4) dX10_readCut_4 rfl (by decide) rfl ?_
    refine G_iload_n (pc := 5) dX10_readCut_5 rfl rfl ?_
    refine T_if_lt (pc := 6) (tgt := 18) dX10_readCut_6 (by decide) (fun c6 => ?_) (fun c6 => absurd c6 (by decide))
    refine G_iconst (pc := 18) (v := (-1)) dX10_readCut_18 (by decide) ?_
    refine S_iret (pc := 19) dX10_readCut_19 rfl ?_
    exact h
  · rw [hr] at ok
    have hf := ok.1 f rfl
    have hb : b ≤ T.length := ok.2
    show G sc mX10_readCut 4 [some (aR 389), none, none, none] [aI (nI f)] (mk (upX S 389 10 (nI b))) Q
    by_cases hc : lk T b = 44
    · have hsb := lk_sk2 hT (a := b) (by omega)
      have ok2 := rdP_ok hT (a := sk T b + 1) (by omega)
      refine G_istore_n (pc := 4) dX10_readCut_4 rfl (by decide) rfl ?_
      refine G_iload_n (pc := 5) dX10_readCut_5 rfl rfl ?_
      refine N_if_lt (pc := 6) (tgt := 18) dX10_readCut_6 (by decide) (by omega) ?_
      refine G_aload_n (pc := 9) dX10_readCut_9 rfl rfl ?_
      refine S_callV (av := []) (pc := 10) (z := mX10_next) (ci := 9) dX10_readCut_10 zX10_next lX10_readCut_291 rfl (by first | rfl | assumption) rfl rfl (sX10_next hT hb ⟨_, rfl, ?_⟩)
      refine G_bipush (pc := 13) (v := nI 44) dX10_readCut_13 (by decide) ?_
      refine T_icmp_eq (pc := 15) (tgt := 20) dX10_readCut_15 (by decide) (fun c15 => ?_) (fun c15 => absurd c15 (fun z => z ((nx_eq hT (by decide)).mpr hc)))
      refine G_aload_n (pc := 20) dX10_readCut_20 rfl rfl ?_
      refine G_dup (pc := 21) dX10_readCut_21 rfl ?_
      refine S_getI (pc := 22) dX10_readCut_22 fX10_288 rfl (by first | rfl | assumption) rfl ?_
      rw [tp_at]
      refine G_iconst (pc := 25) (v := nI 1) dX10_readCut_25 (by decide) ?_
      refine N_iadd (pc := 26) dX10_readCut_26 ?_
      refine S_putI (pc := 27) dX10_readCut_27 fX10_288 (by decide) rfl (by first | rfl | assumption) rfl ?_
      rw [upX_u]
      refine G_aload_n (pc := 30) dX10_readCut_30 rfl rfl ?_
      refine S_callV (av := []) (pc := 31) (z := mX10_readPlace) (ci := 9) dX10_readCut_31 zX10_readPlace lX10_readCut_306 rfl (by first | rfl | assumption) rfl rfl (sX10_readPlace hT (by omega) ⟨_, rfl, ?_⟩)
      rcases hr2 : rdP T (sk T b + 1) with ⟨_ | t, c⟩
      · rw [rdC_2 hr hc hr2] at h
        show G sc mX10_readCut 34 [some (aR 389), some (aI (nI f)), none, none] [aI (-1)] (mk (upX S 389 10 (nI c))) Q
        refine G_istore_n (pc := 34) dX10_readCut_34 rfl (by decide) rfl ?_
        refine G_iload_n (pc := 35) dX10_readCut_35 rfl rfl ?_
        refine T_if_ge (pc := 36) (tgt := 41) dX10_readCut_36 (by decide) (fun c36 => absurd c36 (by decide)) (fun c36 => ?_)
        refine G_iconst (pc := 39) (v := (-1)) dX10_readCut_39 (by decide) ?_
        refine S_iret (pc := 40) dX10_readCut_40 rfl ?_
        exact h
      · rw [rdC_3 hr hc hr2] at h
        rw [hr2] at ok2
        have ht := ok2.1 t rfl
        have hcl : c ≤ T.length := ok2.2
        have hsc := sk_le hcl
        have hid := sk_sk hcl
        show G sc mX10_readCut 34 [some (aR 389), some (aI (nI f)), none, none] [aI (nI t)] (mk (upX S 389 10 (nI c))) Q
        have K : ∀ u : Nat, u = tuN T c → G sc mX10_readCut 68 [some (aR 389), some (aI (nI f)), some (aI (nI t)), none] [aI (nI u)] (mk (upX S 389 10 (nI (sk T c)))) Q := by
          intro u hu
          have hu3 : u < 3 := by rw [hu]; unfold tuN; split <;> (try split) <;> omega
          rw [← hu] at h
          refine G_istore_n (pc := 68) dX10_readCut_68 rfl (by decide) rfl ?_
          refine G_aload_n (pc := 69) dX10_readCut_69 rfl rfl ?_
          refine G_dup (pc := 70) dX10_readCut_70 rfl ?_
          refine S_getI (pc := 71) dX10_readCut_71 fX10_288 rfl (by first | rfl | assumption) rfl ?_
          rw [tp_at]
          refine G_iload_n (pc := 74) dX10_readCut_74 rfl rfl ?_
          refine N_if_le (pc := 75) (tgt := 82) dX10_readCut_75 (by decide) (by omega) (fun c75 => ?_) (fun c75 => ?_)
          · skip
            rw [if_neg (by omega)] at h
            refine G_iconst (pc := 82) (v := nI 0) dX10_readCut_82 (by decide) ?_
            refine N_iadd (pc := 83) dX10_readCut_83 ?_
            refine S_putI (pc := 84) dX10_readCut_84 fX10_288 (by decide) rfl (by first | rfl | assumption) rfl ?_
            refine G_bipush (pc := 87) (v := nI 120) dX10_readCut_87 (by decide) ?_
            refine G_iload_n (pc := 89) dX10_readCut_89 rfl rfl ?_
            refine N_imul (pc := 90) dX10_readCut_90 ?_
            refine G_iconst (pc := 91) (v := nI 3) dX10_readCut_91 (by decide) ?_
            refine G_iload_n (pc := 92) dX10_readCut_92 rfl rfl ?_
            refine N_imul (pc := 93) dX10_readCut_93 ?_
            refine N_iadd (pc := 94) dX10_readCut_94 ?_
            refine G_iload_n (pc := 95) dX10_readCut_95 rfl rfl ?_
            refine N_iadd (pc := 96) dX10_readCut_96 ?_
            refine S_iret (pc := 97) dX10_readCut_97 rfl ?_
            rw [upX_u]
            exact h
          · skip
            rw [if_pos (by omega)] at h
            refine G_iconst (pc := 78) (v := nI 1) dX10_readCut_78 (by decide) ?_
            refine G_goto (pc := 79) (tgt := 83) dX10_readCut_79 (by decide) ?_
            refine N_iadd (pc := 83) dX10_readCut_83 ?_
            refine S_putI (pc := 84) dX10_readCut_84 fX10_288 (by decide) rfl (by first | rfl | assumption) rfl ?_
            refine G_bipush (pc := 87) (v := nI 120) dX10_readCut_87 (by decide) ?_
            refine G_iload_n (pc := 89) dX10_readCut_89 rfl rfl ?_
            refine N_imul (pc := 90) dX10_readCut_90 ?_
            refine G_iconst (pc := 91) (v := nI 3) dX10_readCut_91 (by decide) ?_
            refine G_iload_n (pc := 92) dX10_readCut_92 rfl rfl ?_
            refine N_imul (pc := 93) dX10_readCut_93 ?_
            refine N_iadd (pc := 94) dX10_readCut_94 ?_
            refine G_iload_n (pc := 95) dX10_readCut_95 rfl rfl ?_
            refine N_iadd (pc := 96) dX10_readCut_96 ?_
            refine S_iret (pc := 97) dX10_readCut_97 rfl ?_
            rw [upX_u]
            exact h
        refine G_istore_n (pc := 34) dX10_readCut_34 rfl (by decide) rfl ?_
        refine G_iload_n (pc := 35) dX10_readCut_35 rfl rfl ?_
        refine N_if_ge (pc := 36) (tgt := 41) dX10_readCut_36 (by decide) (by omega) ?_
        refine G_aload_n (pc := 41) dX10_readCut_41 rfl rfl ?_
        refine S_callV (av := []) (pc := 42) (z := mX10_next) (ci := 9) dX10_readCut_42 zX10_next lX10_readCut_291 rfl (by first | rfl | assumption) rfl rfl (sX10_next hT hcl ⟨_, rfl, ?_⟩)
        refine G_bipush (pc := 45) (v := nI 117) dX10_readCut_45 (by decide) ?_
        refine T_icmp_ne (pc := 47) (tgt := 54) dX10_readCut_47 (by decide) (fun c47 => ?_) (fun c47 => ?_)
        · skip
          have c47 : ¬ lk T c = 117 := fun z => c47 ((nx_eq hT (by decide)).mpr z)
          refine G_aload_n (pc := 54) dX10_readCut_54 rfl rfl ?_
          refine S_callV (av := []) (pc := 55) (z := mX10_next) (ci := 9) dX10_readCut_55 zX10_next lX10_readCut_291 rfl (by first | rfl | assumption) rfl rfl (sX10_next hT hsc ⟨_, rfl, ?_⟩)
          rw [hid]
          refine G_bipush (pc := 58) (v := nI 108) dX10_readCut_58 (by decide) ?_
          refine T_icmp_ne (pc := 60) (tgt := 67) dX10_readCut_60 (by decide) (fun c60 => ?_) (fun c60 => ?_)
          · skip
            have c60 : ¬ lk T c = 108 := fun z => c60 ((nx_eq hT (by decide)).mpr (by rw [lk_sk hcl]; exact z))
            refine G_iconst (pc := 67) (v := nI 0) dX10_readCut_67 (by decide) ?_
            first
            | exact K 1 (by unfold tuN; rw [if_pos c47])
            | exact K 2 (by unfold tuN; rw [if_neg c47, if_pos c60])
            | exact K 0 (by unfold tuN; rw [if_neg c47, if_neg c60])
          · skip
            have c60 := (nx_eq hT (by decide)).mp c60
            rw [lk_sk hcl] at c60
            refine G_iconst (pc := 63) (v := nI 2) dX10_readCut_63 (by decide) ?_
            refine G_goto (pc := 64) (tgt := 68) dX10_readCut_64 (by decide) ?_
            first
            | exact K 1 (by unfold tuN; rw [if_pos c47])
            | exact K 2 (by unfold tuN; rw [if_neg c47, if_pos c60])
            | exact K 0 (by unfold tuN; rw [if_neg c47, if_neg c60])
        · skip
          have c47 := (nx_eq hT (by decide)).mp c47
          refine G_iconst (pc := 50) (v := nI 1) dX10_readCut_50 (by decide) ?_
          refine G_goto (pc := 51) (tgt := 68) dX10_readCut_51 (by decide) ?_
          first
          | exact K 1 (by unfold tuN; rw [if_pos c47])
          | exact K 2 (by unfold tuN; rw [if_neg c47, if_pos c60])
          | exact K 0 (by unfold tuN; rw [if_neg c47, if_neg c60])
    · rw [rdC_1 hr hc] at h
      refine G_istore_n (pc := 4) dX10_readCut_4 rfl (by decide) rfl ?_
      refine G_iload_n (pc := 5) dX10_readCut_5 rfl rfl ?_
      refine N_if_lt (pc := 6) (tgt := 18) dX10_readCut_6 (by decide) (by omega) ?_
      refine G_aload_n (pc := 9) dX10_readCut_9 rfl rfl ?_
      refine S_callV (av := []) (pc := 10) (z := mX10_next) (ci := 9) dX10_readCut_10 zX10_next lX10_readCut_291 rfl (by first | rfl | assumption) rfl rfl (sX10_next hT hb ⟨_, rfl, ?_⟩)
      refine G_bipush (pc := 13) (v := nI 44) dX10_readCut_13 (by decide) ?_
      refine T_icmp_eq (pc := 15) (tgt := 20) dX10_readCut_15 (by decide) (fun c15 => absurd c15 (fun z => hc ((nx_eq hT (by decide)).mp z))) (fun c15 => ?_)
      refine G_iconst (pc := 18) (v := (-1)) dX10_readCut_18 (by decide) ?_
      refine S_iret (pc := 19) dX10_readCut_19 rfl ?_
      exact h
end M39
