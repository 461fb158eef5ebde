/-! the model: type, addThing, thing -/
def byL (w : Int64) (i : Nat) : Int64 := (w >>> ((nI (8 * i)).toInt64 &&& 63)) &&& 255
def byI (w : Int64) (i : Nat) : Int32 := (byL w i).toInt32
def allBy (w : Int64) : Nat → Bool
  | 0 => true
  | i + 1 => decide (32 ≤ (byL w i).toInt ∧ (byL w i).toInt ≤ 126) && allBy w i
def wL (w : Int64) : Nat → List Int32
  | 0 => []
  | i + 1 => byI w i :: wL w i
theorem wL_len (w : Int64) : ∀ n, (wL w n).length = n
  | 0 => rfl
  | n + 1 => by simp [wL, wL_len w n]
abbrev tX (a j : Nat) : Prop := a = 389 ∧ j = 9
abbrev tA (a : Nat) : Prop := a = 396
abbrev TapIs (S : ST) (l : List Int32) : Prop := RowIs S 396 389 9 l
section M8
variable {sc : SC} {S : ST} {Q : Option AV → HM → Prop}
theorem k90 : Cond.constantLong RX10 90 255 ∈ gTs := kX10_90
set_option maxRecDepth 100000 in
set_option maxHeartbeats 4000000 in
theorem type_lp1 {w : Int64} {n : Int32} :
    ∀ (k : Nat), k ≤ 8 → (allBy w k = true → ∀ x : Int32, G sc mX10_type 55 [some (aR 389), some (aL w), none, some (aI n), some (aI x)] [] (mk S) Q) → (allBy w k = false → Q (some (aI (-1))) (mk S)) →
      G sc mX10_type 19 [some (aR 389), some (aL w), none, some (aI n), some (aI (nI k - nI 1))] [] (mk S) Q := by
  intro k
  induction k with
  | zero =>
    intro _ h1 h0
    refine G_iload (pc := 19) dX10_type_19 rfl ?_
    refine T_if_lt (pc := 21) (tgt := 55) dX10_type_21 (by decide) (fun c21 => ?_) (fun c21 => absurd c21 (by decide))
    exact h1 rfl _
  | succ k ih =>
    intro hk h1 h0
    rw [show nI (k + 1) - nI 1 = nI k from by rw [pk_sub (by omega)]; congr 1]
    have z1 : (32 : Int64).toInt = 32 := rfl
    have z2 : (126 : Int64).toInt = 126 := rfl
    refine G_iload (pc := 19) dX10_type_19 rfl ?_
    refine N_if_lt (pc := 21) (tgt := 55) dX10_type_21 (by decide) (by omega) ?_
    refine G_lload_n (pc := 24) dX10_type_24 rfl rfl ?_
    refine G_bipush (pc := 25) (v := nI 8) dX10_type_25 (by decide) ?_
    refine G_iload (pc := 27) dX10_type_27 rfl ?_
    refine N_imul (pc := 29) dX10_type_29 ?_
    refine G_lshr (pc := 30) dX10_type_30 ?_
    refine G_ldc2 (pc := 31) dX10_type_31 kX10_90 ?_
    refine G_land (pc := 34) dX10_type_34 ?_
    refine G_ldc2 (pc := 35) dX10_type_35 kX10_92 ?_
    refine G_ldc2 (pc := 38) dX10_type_38 kX10_94 ?_
    refine S_callS (av := [_, _, _]) (pc := 41) (z := mX10_in) dX10_type_41 zX10_in lX10_type_84 rfl (sX10_in ⟨_, rfl, ?_⟩)
    refine B_if_ne (pc := 44) (tgt := 49) dX10_type_44 (by decide) (fun c44 => ?_) (fun c44 => ?_)
    · skip
      rw [decide_eq_true_iff, z1, z2] at c44
      have e : allBy w (k + 1) = allBy w k := by
        show (decide (32 ≤ (byL w k).toInt ∧ (byL w k).toInt ≤ 126) && allBy w k) = _
        rw [decide_eq_true (show 32 ≤ (byL w k).toInt ∧ (byL w k).toInt ≤ 126 from c44)]
        rfl
      rw [e] at h1 h0
      refine G_iinc (pc := 49) dX10_type_49 rfl (dec1 _) (by decide) rfl ?_
      refine G_goto (pc := 52) (tgt := 19) dX10_type_52 (by decide) ?_
      exact ih (by omega) h1 h0
    · skip
      rw [decide_eq_false_iff_not, z1, z2] at c44
      refine G_iconst (pc := 47) (v := (-1)) dX10_type_47 (by decide) ?_
      refine S_iret (pc := 48) dX10_type_48 rfl ?_
      exact h0 (by show (decide (32 ≤ (byL w k).toInt ∧ (byL w k).toInt ≤ 126) && allBy w k) = _; rw [decide_eq_false (show ¬ (32 ≤ (byL w k).toInt ∧ (byL w k).toInt ≤ 126) from c44)]; rfl)
set_option maxRecDepth 100000 in
set_option maxHeartbeats 4000000 in
theorem type_lp2 {w : Int64} {n : Int32} :
    ∀ (k : Nat) (S : ST) (l : List Int32), k ≤ 8 → TapIs S l → l.length + k ≤ 60 → (∀ S', Fr tX tA S S' → TapIs S' (l ++ wL w k) → Q (some (aI (nI (l.length + k)))) (mk S')) →
      G sc mX10_type 74 [some (aR 389), some (aL w), none, some (aI n), some (aI (nI k - nI 1))] [] (mk S) Q := by
  intro k
  induction k with
  | zero =>
    intro S l _ hl _ h
    refine G_iload (pc := 74) dX10_type_74 rfl ?_
    refine T_if_lt (pc := 76) (tgt := 116) dX10_type_76 (by decide) (fun c76 => ?_) (fun c76 => absurd c76 (by decide))
    refine G_aload_n (pc := 116) dX10_type_116 rfl rfl ?_
    refine S_getI (pc := 117) dX10_type_117 fX10_96 rfl (by first | rfl | assumption) rfl ?_
    rw [hl.1]
    refine S_iret (pc := 120) dX10_type_120 rfl ?_
    exact h S Fr.rf (by rw [show l ++ wL w 0 = l by simp [wL]]; exact hl)
  | succ k ih =>
    intro S l hk hl hlen h
    rw [show nI (k + 1) - nI 1 = nI k from by rw [pk_sub (by omega)]; congr 1]
    refine G_iload (pc := 74) dX10_type_74 rfl ?_
    refine N_if_lt (pc := 76) (tgt := 116) dX10_type_76 (by decide) (by omega) ?_
    refine G_aload_n (pc := 79) dX10_type_79 rfl rfl ?_
    refine S_getR (pc := 80) (b := 396) dX10_type_80 fX10_28 rfl rfl (by first | rfl | assumption) rfl rfl ?_
    refine G_aload_n (pc := 83) dX10_type_83 rfl rfl ?_
    refine S_getI (pc := 84) dX10_type_84 fX10_96 rfl (by first | rfl | assumption) rfl ?_
    rw [hl.1]
    refine G_lload_n (pc := 87) dX10_type_87 rfl rfl ?_
    refine G_bipush (pc := 88) (v := nI 8) dX10_type_88 (by decide) ?_
    refine G_iload (pc := 90) dX10_type_90 rfl ?_
    refine N_imul (pc := 92) dX10_type_92 ?_
    refine G_lshr (pc := 93) dX10_type_93 ?_
    refine G_ldc2 (pc := 94) dX10_type_94 kX10_90 ?_
    refine G_land (pc := 97) dX10_type_97 ?_
    refine G_l2i (pc := 98) dX10_type_98 ?_
    rw [show ((w >>> ((nI (8 * k)).toInt64 &&& 63)) &&& 255).toInt32 = byI w k from rfl]
    refine N_iast (pc := 99) dX10_type_99 (by first | rfl | assumption) rfl (by omega) ?_
    refine G_aload_n (pc := 100) dX10_type_100 rfl rfl ?_
    refine G_dup (pc := 101) dX10_type_101 rfl ?_
    refine S_getI (pc := 102) dX10_type_102 fX10_96 rfl (by first | rfl | assumption) rfl ?_
    rw [show (upI S 396 l.length (byI w k)).1 389 9 = nI l.length from hl.1]
    refine G_iconst (pc := 105) (v := nI 1) dX10_type_105 (by decide) ?_
    refine N_iadd (pc := 106) dX10_type_106 ?_
    refine S_putI (pc := 107) dX10_type_107 fX10_96 (by decide) rfl (by first | rfl | assumption) rfl ?_
    refine G_iinc (pc := 110) dX10_type_110 rfl (dec1 _) (by decide) rfl ?_
    refine G_goto (pc := 113) (tgt := 74) dX10_type_113 (by decide) ?_
    refine ih (upX (upI S 396 l.length (byI w k)) 389 9 (nI (l.length + 1))) (l ++ [byI w k]) (by omega) hl.push (by simp; omega) (fun S' h1 h2 => ?_)
    have h3 := h S' (Fr.tr (Fr.tr (Fr.upI rfl) (Fr.upX ⟨rfl, rfl⟩)) h1) (by rw [show l ++ wL w (k + 1) = l ++ [byI w k] ++ wL w k by simp [wL]]; exact h2)
    rw [show (l ++ [byI w k]).length + k = l.length + (k + 1) by simp; omega]
    exact h3
set_option maxRecDepth 100000 in
set_option maxHeartbeats 4000000 in
theorem sX10_type {w : Int64} {n : Int32} {l : List Int32} (hl : TapIs S l) (hlen : l.length ≤ 60) (hbad : ¬ (1 ≤ n.toInt ∧ n.toInt ≤ 8) ∨ allBy w n.toNatClampNeg = false → Q (some (aI (-1))) (mk S))
    (hfull : 1 ≤ n.toInt ∧ n.toInt ≤ 8 → allBy w n.toNatClampNeg = true → 60 < l.length + n.toNatClampNeg → Q (some (aI (-3))) (mk S))
    (hok : 1 ≤ n.toInt ∧ n.toInt ≤ 8 → allBy w n.toNatClampNeg = true → l.length + n.toNatClampNeg ≤ 60 → ∀ S', Fr tX tA S S' → TapIs S' (l ++ wL w n.toNatClampNeg) → Q (some (aI (nI (l.length + n.toNatClampNeg)))) (mk S')) : CT sc mX10_type [aR 389, aL w, aI n] (mk S) Q := by
  refine S_of (by decide) rfl ?_
  show G sc mX10_type 0 [some (aR 389), some (aL w), none, some (aI n), none] [] (mk S) Q
  have z1 : (1 : Int64).toInt = 1 := rfl
  have z8 : (8 : Int64).toInt = 8 := rfl
  refine G_iload_n (pc := 0) dX10_type_0 rfl rfl ?_
  refine G_i2l (pc := 1) dX10_type_1 ?_
  refine G_lconst (pc := 2) (v := 1) dX10_type_2 (by decide) ?_
  refine G_ldc2 (pc := 3) dX10_type_3 kX10_88 ?_
  refine S_callS (av := [_, _, _]) (pc := 6) (z := mX10_in) dX10_type_6 zX10_in lX10_type_84 rfl (sX10_in ⟨_, rfl, ?_⟩)
  refine B_if_ne (pc := 9) (tgt := 14) dX10_type_9 (by decide) (fun c9 => ?_) (fun c9 => ?_)
  · skip
    rw [decide_eq_true_iff, Int32.toInt_toInt64, z1, z8] at c9
    obtain ⟨k, hk, rfl⟩ := nI_ex (x := n) (n := 9) (by omega) (by omega)
    rw [nI_clamp (by omega)] at hbad hfull hok
    refine G_iload_n (pc := 14) dX10_type_14 rfl rfl ?_
    refine G_iconst (pc := 15) (v := nI 1) dX10_type_15 (by decide) ?_
    refine G_isub (pc := 16) dX10_type_16 ?_
    refine G_istore (pc := 17) dX10_type_17 (by decide) rfl ?_
    refine type_lp1 k (by omega) (fun ha x => ?_) (fun ha => hbad (Or.inr ha))
    refine G_aload_n (pc := 55) dX10_type_55 rfl rfl ?_
    refine S_getI (pc := 56) dX10_type_56 fX10_96 rfl (by first | rfl | assumption) rfl ?_
    rw [hl.1]
    refine G_iload_n (pc := 59) dX10_type_59 rfl rfl ?_
    refine N_iadd (pc := 60) dX10_type_60 ?_
    refine G_bipush (pc := 61) (v := nI 60) dX10_type_61 (by decide) ?_
    refine N_icmp_le (pc := 63) (tgt := 69) dX10_type_63 (by decide) (by omega) (fun c63 => ?_) (fun c63 => ?_)
    · skip
      refine G_iload_n (pc := 69) dX10_type_69 rfl rfl ?_
      refine G_iconst (pc := 70) (v := nI 1) dX10_type_70 (by decide) ?_
      refine G_isub (pc := 71) dX10_type_71 ?_
      refine G_istore (pc := 72) dX10_type_72 (by decide) rfl ?_
      exact type_lp2 k S l (by omega) hl (by omega) (fun S' g1 g2 => hok c9 ha (by omega) S' g1 g2)
    · skip
      refine G_bipush (pc := 66) (v := (-3)) dX10_type_66 (by decide) ?_
      refine S_iret (pc := 68) dX10_type_68 rfl ?_
      exact hfull c9 ha (by omega)
  · skip
    rw [decide_eq_false_iff_not, Int32.toInt_toInt64, z1, z8] at c9
    refine G_iconst (pc := 12) (v := (-1)) dX10_type_12 (by decide) ?_
    refine S_iret (pc := 13) dX10_type_13 rfl ?_
    exact hbad (Or.inl c9)
end M8
