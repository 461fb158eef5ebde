/-! the constructors: Fit (written by gen_init2.py) -/
section N6
variable {sc : SC} {y : MI} {pc : Nat} {L : List (Option AV)} {st : List AV} {Q : Option AV → HM → Prop} {B : Nat → Cel} {F : Nat → AV} {a ci u s L1 L2 : Nat}
theorem I_refC {i t : Nat} {x : Int32} {N : Nat} {nm : String} (hd : decode y.2.1 pc = .ok (.anewarray i, 3)) (hw : Cond.classLink y.1.cls i nm ∈ gTs) (ht : t ∈ [3, 4, 5, 6]) (hc : ∀ f : Cf, (gTy f)[t]? = some (f.2.2.1 t, .object nm)) (hx : ¬ x < 0) (hN : x.toNatClampNeg = N) (hb : N * 4 ≤ 536870912) (h1n : u + 1 ≤ L1) (h1s : s + N ≤ L2) (hB : B u = .inr (.inl (t, N, fun _ => none)))
    (kk : G sc y (pc + 3) L (aR u :: st) (B, u + 1, s + N, L1, L2) Q) : G sc y pc L (aI x :: st) (B, u, s, L1, L2) Q :=
  G_anewarray hd hw ht hc hx hN hb h1n h1s (by rw [gAdd_id hB]; exact kk)
set_option maxRecDepth 100000 in
set_option maxHeartbeats 4000000 in
theorem x0_lp (hB : ∀ j, 6 ≤ j → j < 150 → B j = mkC Si j) (hF : ∀ j, j < 17 → F j = if off 0 j = 0 then aI 0 else aR (6 + off 0 j)) (h1 : 150 ≤ L1) :
    ∀ (d i s : Nat), i + d = 64 → s + 5 * d ≤ L2 → (∀ s', s' = s + 5 * d → Q none (B, 150, s', L1, L2)) →
      G sc mX0_init 123 [some (aR 6), some (aI (nI i))] [] (ob (rf B 21 4 64 (gi 22 2 i)) 6 0 F, 22 + 2 * i, s, L1, L2) Q := by
  have hF15 : F 15 = aR 21 := hF 15 (by omega)
  intro d
  induction d with
  | zero =>
    intro i s hi hs h
    refine G_iload_n (pc := 123) dX0_init_123 rfl rfl ?_
    refine G_bipush (pc := 124) (v := nI 64) dX0_init_124 (by decide) ?_
    refine N_icmp_ge (pc := 126) (tgt := 148) dX0_init_126 (by decide) (by omega) (fun c31 => ?_) (fun c31 => absurd c31 (by omega))
    refine I_rfix (g' := rfA Si 21) (by omega) ((hB 21 (by omega) (by omega)).trans rfl) (fun j hj => ?_) ?_
    · show (if j < i then some (22 + 2 * j) else none) = some (22 + 2 * j)
      rw [if_pos (by omega)]
    · refine I_endF (pc := 148) dX0_init_148 rfl (u' := 150) (s' := s) (by omega) rfl h1 (by omega) ((hB _ (by omega) (by omega)).trans (mkC_obj (k := 6) (c := 0) (n := 0) rfl rfl)) (fun j hj => ?_) (h s (by omega))
      have hj : j < 17 := hj
      rw [hF j hj]
      split
      · exact congrArg aI (Si_z (k := 6) (j := j) (by omega)).symm
      · rfl
  | succ d ih =>
    intro i s hi hs h
    have hK := PgK_n i (by omega)
    refine G_iload_n (pc := 123) dX0_init_123 rfl rfl ?_
    refine G_bipush (pc := 124) (v := nI 64) dX0_init_124 (by decide) ?_
    refine N_icmp_ge (pc := 126) (tgt := 148) dX0_init_126 (by decide) (by omega) (fun c31 => absurd c31 (by omega)) (fun c31 => ?_)
    refine G_aload_n (pc := 129) dX0_init_129 rfl rfl ?_
    refine I_get (pc := 130) dX0_init_130 fX0_68 (by omega) hF15 ?_
    refine G_iload_n (pc := 133) dX0_init_133 rfl rfl ?_
    refine I_new (pc := 134) (ci' := 2) (N := 2) dX0_init_134 (by decide +kernel) rfl rfl (by omega) (by omega) ?_
    refine G_dup (pc := 137) dX0_init_137 rfl ?_
    refine I_callN (av := []) (pc := 138) (z := mX3_init) dX0_init_138 zX3_init lX0_init_75 rfl ?_ ?_ (i_X3 hK.1 hK.2 (fun j q1 q2 => by rw [ob_n (by omega), rf_n (by omega)]; exact hB _ (by omega) (by omega)) (Nat.le_refl _) (Nat.le_refl _) ⟨_, rfl, ?_⟩)
    · exact ⟨by omega, by omega⟩
    · exact ⟨by omega, by omega⟩
    refine I_aast (pc := 141) (ck := 2) dX0_init_141 (by omega) (by omega) (by omega) (by omega) (by omega) ((hB _ (by omega) (by omega)).trans (mkC_obj hK.1 rfl)) rfl (fun f => rfl) (by omega) (by omega) ?_
    rw [gi_s]
    refine N_iinc (pc := 142) dX0_init_142 rfl (by decide) rfl ?_
    refine G_goto (pc := 145) (tgt := 123) dX0_init_145 (by decide) ?_
    exact ih (i + 1) (s + 2 + 3) (by omega) (by omega) (fun s' e => h s' (by omega))
set_option maxRecDepth 100000 in
set_option maxHeartbeats 4000000 in
theorem i_X0 (hB : ∀ j, 6 ≤ j → j < 150 → B j = mkC Si j) (h1 : 150 ≤ L1) (h2 : s + 107623 ≤ L2) (h : Q none (B, 150, s + 107623, L1, L2)) : CT sc mX0_init [aR 6] (ob B 6 0 (gDef 0), 7, s, L1, L2) Q := by
  refine I_of (by decide) rfl (by omega) (by omega) ?_
  show G sc mX0_init 0 [some (aR 6), none] [] (ob B 6 0 (gDef 0), 7, s, L1, L2) Q
  refine G_aload_n (pc := 0) dX0_init_0 rfl rfl ?_
  refine G_objInit (pc := 1) dX0_init_1 oX0 oI1 oI2 (by decide) (by decide) ?_
  refine G_aload_n (pc := 4) dX0_init_4 rfl rfl ?_
  refine G_iconst (pc := 5) (v := nI 4) dX0_init_5 (by decide) ?_
  refine I_refC (t := 3) (pc := 6) (N := 4) dX0_init_6 clX0_9 (by decide) (fun f => rfl) (by decide) rfl (by decide) (by omega) (by omega) (by rw [ob_n (by omega), hB _ (by omega) (by omega)]; rfl) ?_
  first | refine I_putF (pc := 9) (ty := .array (.object "ShownOnce$Thing")) dX0_init_9 fX0_11 rfl rfl (by decide) (fun f => ⟨rfl, rfl⟩) (by omega) ?_ | refine I_put (pc := 9) (ty := .array (.object "ShownOnce$Thing")) dX0_init_9 fX0_11 rfl (fun f => ⟨rfl, rfl⟩) (by omega) ?_
  refine G_aload_n (pc := 12) dX0_init_12 rfl rfl ?_
  refine G_iconst (pc := 13) (v := nI 0) dX0_init_13 (by decide) ?_
  first | refine I_putF (pc := 14) (ty := .int) dX0_init_14 fX0_17 rfl rfl (by decide) (fun f => ⟨rfl, rfl⟩) (by omega) ?_ | refine I_put (pc := 14) (ty := .int) dX0_init_14 fX0_17 rfl (fun f => ⟨rfl, rfl⟩) (by omega) ?_
  refine G_aload_n (pc := 17) dX0_init_17 rfl rfl ?_
  refine G_iconst (pc := 18) (v := nI 0) dX0_init_18 (by decide) ?_
  first | refine I_putF (pc := 19) (ty := .int) dX0_init_19 fX0_21 rfl rfl (by decide) (fun f => ⟨rfl, rfl⟩) (by omega) ?_ | refine I_put (pc := 19) (ty := .int) dX0_init_19 fX0_21 rfl (fun f => ⟨rfl, rfl⟩) (by omega) ?_
  refine G_aload_n (pc := 22) dX0_init_22 rfl rfl ?_
  refine G_iconst (pc := 23) (v := nI 0) dX0_init_23 (by decide) ?_
  first | refine I_putF (pc := 24) (ty := .int) dX0_init_24 fX0_24 rfl rfl (by decide) (fun f => ⟨rfl, rfl⟩) (by omega) ?_ | refine I_put (pc := 24) (ty := .int) dX0_init_24 fX0_24 rfl (fun f => ⟨rfl, rfl⟩) (by omega) ?_
  refine G_aload_n (pc := 27) dX0_init_27 rfl rfl ?_
  refine G_bipush (pc := 28) (v := nI 40) dX0_init_28 (by decide) ?_
  refine I_row (pc := 30) (t := 0) (N := 40) dX0_init_30 rfl aI_ (fun f => rfl) rfl rfl (by decide) rfl (by decide) (by omega) (by omega) (by rw [ob_n (by omega), hB _ (by omega) (by omega), Si_row (t := 0) (n := 40) rfl (by omega) (by omega)]) ?_
  first | refine I_putF (pc := 32) (ty := .array .int) dX0_init_32 fX0_27 rfl rfl (by decide) (fun f => ⟨rfl, rfl⟩) (by omega) ?_ | refine I_put (pc := 32) (ty := .array .int) dX0_init_32 fX0_27 rfl (fun f => ⟨rfl, rfl⟩) (by omega) ?_
  refine G_aload_n (pc := 35) dX0_init_35 rfl rfl ?_
  refine G_iconst (pc := 36) (v := nI 0) dX0_init_36 (by decide) ?_
  first | refine I_putF (pc := 37) (ty := .int) dX0_init_37 fX0_31 rfl rfl (by decide) (fun f => ⟨rfl, rfl⟩) (by omega) ?_ | refine I_put (pc := 37) (ty := .int) dX0_init_37 fX0_31 rfl (fun f => ⟨rfl, rfl⟩) (by omega) ?_
  refine G_aload_n (pc := 40) dX0_init_40 rfl rfl ?_
  refine G_sipush (pc := 41) (v := nI 4803) dX0_init_41 (by decide) ?_
  refine I_row (pc := 44) (t := 0) (N := 4803) dX0_init_44 rfl aI_ (fun f => rfl) rfl rfl (by decide) rfl (by decide) (by omega) (by omega) (by rw [ob_n (by omega), hB _ (by omega) (by omega), Si_row (t := 0) (n := 4803) rfl (by omega) (by omega)]) ?_
  first | refine I_putF (pc := 46) (ty := .array .int) dX0_init_46 fX0_36 rfl rfl (by decide) (fun f => ⟨rfl, rfl⟩) (by omega) ?_ | refine I_put (pc := 46) (ty := .array .int) dX0_init_46 fX0_36 rfl (fun f => ⟨rfl, rfl⟩) (by omega) ?_
  refine G_aload_n (pc := 49) dX0_init_49 rfl rfl ?_
  refine G_sipush (pc := 50) (v := nI 4803) dX0_init_50 (by decide) ?_
  refine I_row (pc := 53) (t := 0) (N := 4803) dX0_init_53 rfl aI_ (fun f => rfl) rfl rfl (by decide) rfl (by decide) (by omega) (by omega) (by rw [ob_n (by omega), hB _ (by omega) (by omega), Si_row (t := 0) (n := 4803) rfl (by omega) (by omega)]) ?_
  first | refine I_putF (pc := 55) (ty := .array .int) dX0_init_55 fX0_39 rfl rfl (by decide) (fun f => ⟨rfl, rfl⟩) (by omega) ?_ | refine I_put (pc := 55) (ty := .array .int) dX0_init_55 fX0_39 rfl (fun f => ⟨rfl, rfl⟩) (by omega) ?_
  refine G_aload_n (pc := 58) dX0_init_58 rfl rfl ?_
  refine G_sipush (pc := 59) (v := nI 4803) dX0_init_59 (by decide) ?_
  refine I_row (pc := 62) (t := 1) (N := 4803) dX0_init_62 rfl aB_ (fun f => rfl) rfl rfl (by decide) rfl (by decide) (by omega) (by omega) (by rw [ob_n (by omega), hB _ (by omega) (by omega), Si_row (t := 1) (n := 4803) rfl (by omega) (by omega)]) ?_
  first | refine I_putF (pc := 64) (ty := .array .byte) dX0_init_64 fX0_42 rfl rfl (by decide) (fun f => ⟨rfl, rfl⟩) (by omega) ?_ | refine I_put (pc := 64) (ty := .array .byte) dX0_init_64 fX0_42 rfl (fun f => ⟨rfl, rfl⟩) (by omega) ?_
  refine G_aload_n (pc := 67) dX0_init_67 rfl rfl ?_
  refine G_iconst (pc := 68) (v := nI 0) dX0_init_68 (by decide) ?_
  first | refine I_putF (pc := 69) (ty := .int) dX0_init_69 fX0_46 rfl rfl (by decide) (fun f => ⟨rfl, rfl⟩) (by omega) ?_ | refine I_put (pc := 69) (ty := .int) dX0_init_69 fX0_46 rfl (fun f => ⟨rfl, rfl⟩) (by omega) ?_
  refine G_aload_n (pc := 72) dX0_init_72 rfl rfl ?_
  refine I_new (pc := 73) (ci' := 1) (N := 9) dX0_init_73 (by decide +kernel) rfl rfl (by omega) (by omega) ?_
  refine G_dup (pc := 76) dX0_init_76 rfl ?_
  refine I_callN (av := []) (pc := 77) (z := mX2_init) dX0_init_77 zX2_init lX0_init_49 rfl ?_ ?_ (i_X2 (fun j q1 q2 => by rw [ob_n (by omega)]; exact hB _ (by omega) (by omega)) (Nat.le_refl _) (Nat.le_refl _) ⟨_, rfl, ?_⟩)
  · exact ⟨by omega, by omega⟩
  · exact ⟨by omega, by omega⟩
  first | refine I_putF (pc := 80) (ty := .object "ShownOnce$Lasts") dX0_init_80 fX0_50 rfl rfl (by decide) (fun f => ⟨rfl, rfl⟩) (by omega) ?_ | refine I_put (pc := 80) (ty := .object "ShownOnce$Lasts") dX0_init_80 fX0_50 rfl (fun f => ⟨rfl, rfl⟩) (by omega) ?_
  refine G_aload_n (pc := 83) dX0_init_83 rfl rfl ?_
  refine G_sipush (pc := 84) (v := nI 4803) dX0_init_84 (by decide) ?_
  refine I_row (pc := 87) (t := 0) (N := 4803) dX0_init_87 rfl aI_ (fun f => rfl) rfl rfl (by decide) rfl (by decide) (by omega) (by omega) (by rw [ob_n (by omega), hB _ (by omega) (by omega), Si_row (t := 0) (n := 4803) rfl (by omega) (by omega)]) ?_
  first | refine I_putF (pc := 89) (ty := .array .int) dX0_init_89 fX0_54 rfl rfl (by decide) (fun f => ⟨rfl, rfl⟩) (by omega) ?_ | refine I_put (pc := 89) (ty := .array .int) dX0_init_89 fX0_54 rfl (fun f => ⟨rfl, rfl⟩) (by omega) ?_
  refine G_aload_n (pc := 92) dX0_init_92 rfl rfl ?_
  refine G_iconst (pc := 93) (v := nI 0) dX0_init_93 (by decide) ?_
  first | refine I_putF (pc := 94) (ty := .int) dX0_init_94 fX0_57 rfl rfl (by decide) (fun f => ⟨rfl, rfl⟩) (by omega) ?_ | refine I_put (pc := 94) (ty := .int) dX0_init_94 fX0_57 rfl (fun f => ⟨rfl, rfl⟩) (by omega) ?_
  refine G_aload_n (pc := 97) dX0_init_97 rfl rfl ?_
  refine G_iconst (pc := 98) (v := nI 0) dX0_init_98 (by decide) ?_
  first | refine I_putF (pc := 99) (ty := .int) dX0_init_99 fX0_60 rfl rfl (by decide) (fun f => ⟨rfl, rfl⟩) (by omega) ?_ | refine I_put (pc := 99) (ty := .int) dX0_init_99 fX0_60 rfl (fun f => ⟨rfl, rfl⟩) (by omega) ?_
  refine G_aload_n (pc := 102) dX0_init_102 rfl rfl ?_
  refine G_iconst (pc := 103) (v := nI 0) dX0_init_103 (by decide) ?_
  first | refine I_putF (pc := 104) (ty := .int) dX0_init_104 fX0_63 rfl rfl (by decide) (fun f => ⟨rfl, rfl⟩) (by omega) ?_ | refine I_put (pc := 104) (ty := .int) dX0_init_104 fX0_63 rfl (fun f => ⟨rfl, rfl⟩) (by omega) ?_
  refine G_aload_n (pc := 107) dX0_init_107 rfl rfl ?_
  refine G_bipush (pc := 108) (v := nI 64) dX0_init_108 (by decide) ?_
  refine I_refs (t := 4) (pc := 110) (N := 64) dX0_init_110 clX0_66 (by decide) (fun f => rfl) (by decide) rfl (by decide) (by omega) (by omega) (by omega) ?_
  first | refine I_putF (pc := 113) (ty := .array (.object "ShownOnce$Program")) dX0_init_113 fX0_68 rfl rfl (by decide) (fun f => ⟨rfl, rfl⟩) (by omega) ?_ | refine I_put (pc := 113) (ty := .array (.object "ShownOnce$Program")) dX0_init_113 fX0_68 rfl (fun f => ⟨rfl, rfl⟩) (by omega) ?_
  refine G_aload_n (pc := 116) dX0_init_116 rfl rfl ?_
  refine G_iconst (pc := 117) (v := nI 0) dX0_init_117 (by decide) ?_
  first | refine I_putF (pc := 118) (ty := .int) dX0_init_118 fX0_72 rfl rfl (by decide) (fun f => ⟨rfl, rfl⟩) (by omega) ?_ | refine I_put (pc := 118) (ty := .int) dX0_init_118 fX0_72 rfl (fun f => ⟨rfl, rfl⟩) (by omega) ?_
  refine G_iconst (pc := 121) (v := nI 0) dX0_init_121 (by decide) ?_
  refine G_istore_n (pc := 122) dX0_init_122 rfl (by decide) rfl ?_
  rw [gi_0 (b := 22) (m := 2)]
  refine x0_lp hB (fun j hj => ?_) h1 64 0 _ (by omega) (by omega) (fun s' e => ?_)
  · rcases (show j = 0 ∨ j = 1 ∨ j = 2 ∨ j = 3 ∨ j = 4 ∨ j = 5 ∨ j = 6 ∨ j = 7 ∨ j = 8 ∨ j = 9 ∨ j = 10 ∨ j = 11 ∨ j = 12 ∨ j = 13 ∨ j = 14 ∨ j = 15 ∨ j = 16 by omega) with rfl | rfl | rfl | rfl | rfl | rfl | rfl | rfl | rfl | rfl | rfl | rfl | rfl | rfl | rfl | rfl | rfl <;> rfl
  · rw [show s' = s + 107623 by omega]
    exact h
end N6
