/-! the constructors: Program, Sheet, Lasts, Thing, TextReader (written by gen_init.py) -/
section N3
variable {sc : SC} {Q : Option AV → HM → Prop} {B : Nat → Cel} {a s L1 L2 : Nat}
set_option maxRecDepth 100000 in
set_option maxHeartbeats 4000000 in
theorem i_X3 (k0 : kd a = (2, 0)) (k1 : kd (a + 1) = (10, 3)) (hB : ∀ j, a ≤ j → j < a + 2 → B j = mkC Si j) (h1 : a + 2 ≤ L1) (h2 : s + 3 ≤ L2) (h : Q none (B, a + 2, s + 3, L1, L2)) : CT sc mX3_init [aR a] (ob B a 2 (gDef 2), a + 1, s, L1, L2) Q := by
  have a0 : ¬ a = 0 := fun e => by subst e; exact absurd k0 (by decide)
  have a2 : ¬ (381 ≤ a ∧ a ≤ 387 ∧ a % 2 = 1) := fun e => by
    rcases (show a = 381 ∨ a = 383 ∨ a = 385 ∨ a = 387 by omega) with rfl | rfl | rfl | rfl <;> exact absurd k0 (by decide)
  have r1 : ¬ a + 1 = 410 := fun e => by
    have k1' := k1
    rw [e] at k1'
    exact absurd k1' (by decide)
  refine I_of (by decide) rfl (by omega) (by omega) ?_
  show G sc mX3_init 0 [some (aR a)] [] (ob B a 2 (gDef 2), a + 1, s, L1, L2) Q
  refine G_aload_n (pc := 0) dX3_init_0 rfl rfl ?_
  refine G_objInit (pc := 1) dX3_init_1 oX3 oI1 oI2 (by decide) (by decide) ?_
  refine G_aload_n (pc := 4) dX3_init_4 rfl rfl ?_
  refine G_iconst (pc := 5) (v := nI 3) dX3_init_5 (by decide) ?_
  refine I_row (pc := 6) (t := 0) (N := 3) dX3_init_6 rfl aI_ (fun f => rfl) rfl rfl (by decide) rfl (by decide) (by omega) (by omega) (by rw [ob_n (by omega), hB _ (by omega) (by omega), Si_row (t := 0) (n := 3) k1 (by omega) r1]) ?_
  first | refine I_putF (pc := 8) (ty := .array .int) dX3_init_8 fX3_9 rfl rfl (by decide) (fun f => ⟨rfl, rfl⟩) (by omega) ?_ | refine I_put (pc := 8) (ty := .array .int) dX3_init_8 fX3_9 rfl (fun f => ⟨rfl, rfl⟩) (by omega) ?_
  refine G_aload_n (pc := 11) dX3_init_11 rfl rfl ?_
  refine G_iconst (pc := 12) (v := nI 0) dX3_init_12 (by decide) ?_
  first | refine I_putF (pc := 13) (ty := .int) dX3_init_13 fX3_15 rfl rfl (by decide) (fun f => ⟨rfl, rfl⟩) (by omega) ?_ | refine I_put (pc := 13) (ty := .int) dX3_init_13 fX3_15 rfl (fun f => ⟨rfl, rfl⟩) (by omega) ?_
  refine I_endF (pc := 16) dX3_init_16 rfl (by omega) (by omega) h1 h2 ((hB _ (by omega) (by omega)).trans (mkC_obj k0 rfl)) (fun j hj => ?_) h
  have hj : j < 2 := hj
  rcases (show j = 0 ∨ j = 1 by omega) with rfl | rfl
  all_goals first | rfl | exact congrArg aI (Si_z (k := a) (by omega)).symm | (refine congrArg aI ?_; show _ = (if _ then (-1 : Int32) else 0); rw [if_pos (by omega)])
set_option maxRecDepth 100000 in
set_option maxHeartbeats 4000000 in
theorem i_X5 (k0 : kd a = (4, 0)) (k1 : kd (a + 1) = (10, 20)) (a2 : 381 ≤ a ∧ a ≤ 387 ∧ a % 2 = 1) (hB : ∀ j, a ≤ j → j < a + 2 → B j = mkC Si j) (h1 : a + 2 ≤ L1) (h2 : s + 20 ≤ L2) (h : Q none (B, a + 2, s + 20, L1, L2)) : CT sc mX5_init [aR a] (ob B a 4 (gDef 4), a + 1, s, L1, L2) Q := by
  have a0 : ¬ a = 0 := fun e => by subst e; exact absurd k0 (by decide)
  have r1 : ¬ a + 1 = 410 := fun e => by
    have k1' := k1
    rw [e] at k1'
    exact absurd k1' (by decide)
  refine I_of (by decide) rfl (by omega) (by omega) ?_
  show G sc mX5_init 0 [some (aR a)] [] (ob B a 4 (gDef 4), a + 1, s, L1, L2) Q
  refine G_aload_n (pc := 0) dX5_init_0 rfl rfl ?_
  refine G_objInit (pc := 1) dX5_init_1 oX5 oI1 oI2 (by decide) (by decide) ?_
  refine G_aload_n (pc := 4) dX5_init_4 rfl rfl ?_
  refine G_bipush (pc := 5) (v := nI 20) dX5_init_5 (by decide) ?_
  refine I_row (pc := 7) (t := 0) (N := 20) dX5_init_7 rfl aI_ (fun f => rfl) rfl rfl (by decide) rfl (by decide) (by omega) (by omega) (by rw [ob_n (by omega), hB _ (by omega) (by omega), Si_row (t := 0) (n := 20) k1 (by omega) r1]) ?_
  first | refine I_putF (pc := 9) (ty := .array .int) dX5_init_9 fX5_9 rfl rfl (by decide) (fun f => ⟨rfl, rfl⟩) (by omega) ?_ | refine I_put (pc := 9) (ty := .array .int) dX5_init_9 fX5_9 rfl (fun f => ⟨rfl, rfl⟩) (by omega) ?_
  refine G_aload_n (pc := 12) dX5_init_12 rfl rfl ?_
  refine G_iconst (pc := 13) (v := nI 0) dX5_init_13 (by decide) ?_
  first | refine I_putF (pc := 14) (ty := .int) dX5_init_14 fX5_15 rfl rfl (by decide) (fun f => ⟨rfl, rfl⟩) (by omega) ?_ | refine I_put (pc := 14) (ty := .int) dX5_init_14 fX5_15 rfl (fun f => ⟨rfl, rfl⟩) (by omega) ?_
  refine G_aload_n (pc := 17) dX5_init_17 rfl rfl ?_
  refine G_iconst (pc := 18) (v := (-1)) dX5_init_18 (by decide) ?_
  first | refine I_putF (pc := 19) (ty := .int) dX5_init_19 fX5_19 rfl rfl (by decide) (fun f => ⟨rfl, rfl⟩) (by omega) ?_ | refine I_put (pc := 19) (ty := .int) dX5_init_19 fX5_19 rfl (fun f => ⟨rfl, rfl⟩) (by omega) ?_
  refine I_endF (pc := 22) dX5_init_22 rfl (by omega) (by omega) h1 h2 ((hB _ (by omega) (by omega)).trans (mkC_obj k0 rfl)) (fun j hj => ?_) h
  have hj : j < 3 := hj
  rcases (show j = 0 ∨ j = 1 ∨ j = 2 by omega) with rfl | rfl | rfl
  all_goals first | rfl | exact congrArg aI (Si_z (k := a) (by omega)).symm | (refine congrArg aI ?_; show _ = (if _ then (-1 : Int32) else 0); rw [if_pos (by omega)])
set_option maxRecDepth 100000 in
set_option maxHeartbeats 4000000 in
theorem i_X2 (hB : ∀ j, 12 ≤ j → j < 20 → B j = mkC Si j) (h1 : 20 ≤ L1) (h2 : s + 87974 ≤ L2) (h : Q none (B, 20, s + 87974, L1, L2)) : CT sc mX2_init [aR 12] (ob B 12 1 (gDef 1), 13, s, L1, L2) Q := by
  refine I_of (by decide) rfl (by omega) (by omega) ?_
  show G sc mX2_init 0 [some (aR 12)] [] (ob B 12 1 (gDef 1), 13, s, L1, L2) Q
  refine G_aload_n (pc := 0) dX2_init_0 rfl rfl ?_
  refine G_objInit (pc := 1) dX2_init_1 oX2 oI1 oI2 (by decide) (by decide) ?_
  refine G_aload_n (pc := 4) dX2_init_4 rfl rfl ?_
  refine G_ldc (pc := 5) dX2_init_5 kX2_11 ?_
  refine I_row (pc := 7) (t := 2) (N := 65536) dX2_init_7 rfl aS_ (fun f => rfl) rfl rfl (by decide) rfl (by decide) (by omega) (by omega) (by rw [ob_n (by omega), hB _ (by omega) (by omega), Si_row (t := 2) (n := 65536) rfl (by omega) (by omega)]) ?_
  first | refine I_putF (pc := 9) (ty := .array .short) dX2_init_9 fX2_12 rfl rfl (by decide) (fun f => ⟨rfl, rfl⟩) (by omega) ?_ | refine I_put (pc := 9) (ty := .array .short) dX2_init_9 fX2_12 rfl (fun f => ⟨rfl, rfl⟩) (by omega) ?_
  refine G_aload_n (pc := 12) dX2_init_12 rfl rfl ?_
  refine G_sipush (pc := 13) (v := nI 1604) dX2_init_13 (by decide) ?_
  refine I_row (pc := 16) (t := 0) (N := 1604) dX2_init_16 rfl aI_ (fun f => rfl) rfl rfl (by decide) rfl (by decide) (by omega) (by omega) (by rw [ob_n (by omega), hB _ (by omega) (by omega), Si_row (t := 0) (n := 1604) rfl (by omega) (by omega)]) ?_
  first | refine I_putF (pc := 18) (ty := .array .int) dX2_init_18 fX2_16 rfl rfl (by decide) (fun f => ⟨rfl, rfl⟩) (by omega) ?_ | refine I_put (pc := 18) (ty := .array .int) dX2_init_18 fX2_16 rfl (fun f => ⟨rfl, rfl⟩) (by omega) ?_
  refine G_aload_n (pc := 21) dX2_init_21 rfl rfl ?_
  refine G_sipush (pc := 22) (v := nI 1604) dX2_init_22 (by decide) ?_
  refine I_row (pc := 25) (t := 0) (N := 1604) dX2_init_25 rfl aI_ (fun f => rfl) rfl rfl (by decide) rfl (by decide) (by omega) (by omega) (by rw [ob_n (by omega), hB _ (by omega) (by omega), Si_row (t := 0) (n := 1604) rfl (by omega) (by omega)]) ?_
  first | refine I_putF (pc := 27) (ty := .array .int) dX2_init_27 fX2_20 rfl rfl (by decide) (fun f => ⟨rfl, rfl⟩) (by omega) ?_ | refine I_put (pc := 27) (ty := .array .int) dX2_init_27 fX2_20 rfl (fun f => ⟨rfl, rfl⟩) (by omega) ?_
  refine G_aload_n (pc := 30) dX2_init_30 rfl rfl ?_
  refine G_sipush (pc := 31) (v := nI 4812) dX2_init_31 (by decide) ?_
  refine I_row (pc := 34) (t := 0) (N := 4812) dX2_init_34 rfl aI_ (fun f => rfl) rfl rfl (by decide) rfl (by decide) (by omega) (by omega) (by rw [ob_n (by omega), hB _ (by omega) (by omega), Si_row (t := 0) (n := 4812) rfl (by omega) (by omega)]) ?_
  first | refine I_putF (pc := 36) (ty := .array .int) dX2_init_36 fX2_23 rfl rfl (by decide) (fun f => ⟨rfl, rfl⟩) (by omega) ?_ | refine I_put (pc := 36) (ty := .array .int) dX2_init_36 fX2_23 rfl (fun f => ⟨rfl, rfl⟩) (by omega) ?_
  refine G_aload_n (pc := 39) dX2_init_39 rfl rfl ?_
  refine G_sipush (pc := 40) (v := nI 4812) dX2_init_40 (by decide) ?_
  refine I_row (pc := 43) (t := 0) (N := 4812) dX2_init_43 rfl aI_ (fun f => rfl) rfl rfl (by decide) rfl (by decide) (by omega) (by omega) (by rw [ob_n (by omega), hB _ (by omega) (by omega), Si_row (t := 0) (n := 4812) rfl (by omega) (by omega)]) ?_
  first | refine I_putF (pc := 45) (ty := .array .int) dX2_init_45 fX2_26 rfl rfl (by decide) (fun f => ⟨rfl, rfl⟩) (by omega) ?_ | refine I_put (pc := 45) (ty := .array .int) dX2_init_45 fX2_26 rfl (fun f => ⟨rfl, rfl⟩) (by omega) ?_
  refine G_aload_n (pc := 48) dX2_init_48 rfl rfl ?_
  refine G_iconst (pc := 49) (v := nI 0) dX2_init_49 (by decide) ?_
  first | refine I_putF (pc := 50) (ty := .int) dX2_init_50 fX2_29 rfl rfl (by decide) (fun f => ⟨rfl, rfl⟩) (by omega) ?_ | refine I_put (pc := 50) (ty := .int) dX2_init_50 fX2_29 rfl (fun f => ⟨rfl, rfl⟩) (by omega) ?_
  refine G_aload_n (pc := 53) dX2_init_53 rfl rfl ?_
  refine G_sipush (pc := 54) (v := nI 4803) dX2_init_54 (by decide) ?_
  refine I_row (pc := 57) (t := 0) (N := 4803) dX2_init_57 rfl aI_ (fun f => rfl) rfl rfl (by decide) rfl (by decide) (by omega) (by omega) (by rw [ob_n (by omega), hB _ (by omega) (by omega), Si_row (t := 0) (n := 4803) rfl (by omega) (by omega)]) ?_
  first | refine I_putF (pc := 59) (ty := .array .int) dX2_init_59 fX2_33 rfl rfl (by decide) (fun f => ⟨rfl, rfl⟩) (by omega) ?_ | refine I_put (pc := 59) (ty := .array .int) dX2_init_59 fX2_33 rfl (fun f => ⟨rfl, rfl⟩) (by omega) ?_
  refine G_aload_n (pc := 62) dX2_init_62 rfl rfl ?_
  refine G_sipush (pc := 63) (v := nI 4803) dX2_init_63 (by decide) ?_
  refine I_row (pc := 66) (t := 0) (N := 4803) dX2_init_66 rfl aI_ (fun f => rfl) rfl rfl (by decide) rfl (by decide) (by omega) (by omega) (by rw [ob_n (by omega), hB _ (by omega) (by omega), Si_row (t := 0) (n := 4803) rfl (by omega) (by omega)]) ?_
  first | refine I_putF (pc := 68) (ty := .array .int) dX2_init_68 fX2_36 rfl rfl (by decide) (fun f => ⟨rfl, rfl⟩) (by omega) ?_ | refine I_put (pc := 68) (ty := .array .int) dX2_init_68 fX2_36 rfl (fun f => ⟨rfl, rfl⟩) (by omega) ?_
  refine G_aload_n (pc := 71) dX2_init_71 rfl rfl ?_
  refine G_iconst (pc := 72) (v := nI 0) dX2_init_72 (by decide) ?_
  first | refine I_putF (pc := 73) (ty := .int) dX2_init_73 fX2_39 rfl rfl (by decide) (fun f => ⟨rfl, rfl⟩) (by omega) ?_ | refine I_put (pc := 73) (ty := .int) dX2_init_73 fX2_39 rfl (fun f => ⟨rfl, rfl⟩) (by omega) ?_
  refine I_endF (pc := 76) dX2_init_76 rfl (by omega) (by omega) h1 h2 ((hB _ (by omega) (by omega)).trans (mkC_obj rfl rfl)) (fun j hj => ?_) h
  have hj : j < 9 := hj
  rcases (show j = 0 ∨ j = 1 ∨ j = 2 ∨ j = 3 ∨ j = 4 ∨ j = 5 ∨ j = 6 ∨ j = 7 ∨ j = 8 by omega) with rfl | rfl | rfl | rfl | rfl | rfl | rfl | rfl | rfl
  all_goals first | rfl | exact congrArg aI (Si_z (k := 12) (by omega)).symm | (refine congrArg aI ?_; show _ = (if _ then (-1 : Int32) else 0); rw [if_pos (by omega)])
set_option maxRecDepth 100000 in
set_option maxHeartbeats 4000000 in
theorem i_X8 (k0 : kd a = (7, 0)) (k1 : kd (a + 1) = (3, 0)) (k2 : kd (a + 2) = (11, 16)) (k3 : kd (a + 3) = (10, 40)) (k4 : kd (a + 4) = (3, 0)) (k5 : kd (a + 5) = (11, 35)) (k6 : kd (a + 6) = (11, 289)) (hB : ∀ j, a ≤ j → j < a + 7 → B j = mkC Si j) (h1 : a + 7 ≤ L1) (h2 : s + 384 ≤ L2) (h : Q none (B, a + 7, s + 384, L1, L2)) : CT sc mX8_init [aR a] (ob B a 7 (gDef 7), a + 1, s, L1, L2) Q := by
  have a0 : ¬ a = 0 := fun e => by subst e; exact absurd k0 (by decide)
  have a2 : ¬ (381 ≤ a ∧ a ≤ 387 ∧ a % 2 = 1) := fun e => by
    rcases (show a = 381 ∨ a = 383 ∨ a = 385 ∨ a = 387 by omega) with rfl | rfl | rfl | rfl <;> exact absurd k0 (by decide)
  have r2 : ¬ a + 2 = 410 := fun e => by
    have k2' := k2
    rw [e] at k2'
    exact absurd k2' (by decide)
  have r3 : ¬ a + 3 = 410 := fun e => by
    have k3' := k3
    rw [e] at k3'
    exact absurd k3' (by decide)
  have r5 : ¬ a + 5 = 410 := fun e => by
    have k5' := k5
    rw [e] at k5'
    exact absurd k5' (by decide)
  have r6 : ¬ a + 6 = 410 := fun e => by
    have k6' := k6
    rw [e] at k6'
    exact absurd k6' (by decide)
  refine I_of (by decide) rfl (by omega) (by omega) ?_
  show G sc mX8_init 0 [some (aR a)] [] (ob B a 7 (gDef 7), a + 1, s, L1, L2) Q
  refine G_aload_n (pc := 0) dX8_init_0 rfl rfl ?_
  refine G_objInit (pc := 1) dX8_init_1 oX8 oI1 oI2 (by decide) (by decide) ?_
  refine G_aload_n (pc := 4) dX8_init_4 rfl rfl ?_
  refine I_new (pc := 5) (ci' := 3) (N := 2) dX8_init_5 (by decide +kernel) rfl rfl (by omega) (by omega) ?_
  refine G_dup (pc := 8) dX8_init_8 rfl ?_
  refine G_bipush (pc := 9) (v := nI 16) dX8_init_9 (by decide) ?_
  refine I_call (av := [_]) (pc := 11) (z := mX4_init) dX8_init_11 zX4_init lX8_init_11 rfl ?_ ?_ (i_X4 (n := 16) k1 k2 (by decide) (by rw [ob_n (by omega)]; exact hB _ (by omega) (by omega)) (by rw [ob_n (by omega)]; exact hB _ (by omega) (by omega)) (Nat.le_refl _) (Nat.le_refl _) ⟨_, rfl, ?_⟩)
  · exact ⟨by omega, by omega⟩
  · exact ⟨by omega, by omega⟩
  first | refine I_putF (pc := 14) (ty := .object "ShownOnce$Row") dX8_init_14 fX8_14 rfl rfl (by decide) (fun f => ⟨rfl, rfl⟩) (by omega) ?_ | refine I_put (pc := 14) (ty := .object "ShownOnce$Row") dX8_init_14 fX8_14 rfl (fun f => ⟨rfl, rfl⟩) (by omega) ?_
  refine G_aload_n (pc := 17) dX8_init_17 rfl rfl ?_
  refine G_bipush (pc := 18) (v := nI 40) dX8_init_18 (by decide) ?_
  refine I_row (pc := 20) (t := 0) (N := 40) dX8_init_20 rfl aI_ (fun f => rfl) rfl rfl (by decide) rfl (by decide) (by omega) (by omega) (by rw [ob_n (by omega), hB _ (by omega) (by omega), Si_row (t := 0) (n := 40) k3 (by omega) r3]) ?_
  first | refine I_putF (pc := 22) (ty := .array .int) dX8_init_22 fX8_20 rfl rfl (by decide) (fun f => ⟨rfl, rfl⟩) (by omega) ?_ | refine I_put (pc := 22) (ty := .array .int) dX8_init_22 fX8_20 rfl (fun f => ⟨rfl, rfl⟩) (by omega) ?_
  refine G_aload_n (pc := 25) dX8_init_25 rfl rfl ?_
  refine I_new (pc := 26) (ci' := 3) (N := 2) dX8_init_26 (by decide +kernel) rfl rfl (by omega) (by omega) ?_
  refine G_dup (pc := 29) dX8_init_29 rfl ?_
  refine G_bipush (pc := 30) (v := nI 35) dX8_init_30 (by decide) ?_
  refine I_call (av := [_]) (pc := 32) (z := mX4_init) dX8_init_32 zX4_init lX8_init_11 rfl ?_ ?_ (i_X4 (n := 35) k4 k5 (by decide) (by rw [ob_n (by omega)]; exact hB _ (by omega) (by omega)) (by rw [ob_n (by omega)]; exact hB _ (by omega) (by omega)) (Nat.le_refl _) (Nat.le_refl _) ⟨_, rfl, ?_⟩)
  · exact ⟨by omega, by omega⟩
  · exact ⟨by omega, by omega⟩
  first | refine I_putF (pc := 35) (ty := .object "ShownOnce$Row") dX8_init_35 fX8_24 rfl rfl (by decide) (fun f => ⟨rfl, rfl⟩) (by omega) ?_ | refine I_put (pc := 35) (ty := .object "ShownOnce$Row") dX8_init_35 fX8_24 rfl (fun f => ⟨rfl, rfl⟩) (by omega) ?_
  refine G_aload_n (pc := 38) dX8_init_38 rfl rfl ?_
  refine G_iconst (pc := 39) (v := nI 0) dX8_init_39 (by decide) ?_
  first | refine I_putF (pc := 40) (ty := .int) dX8_init_40 fX8_27 rfl rfl (by decide) (fun f => ⟨rfl, rfl⟩) (by omega) ?_ | refine I_put (pc := 40) (ty := .int) dX8_init_40 fX8_27 rfl (fun f => ⟨rfl, rfl⟩) (by omega) ?_
  refine G_aload_n (pc := 43) dX8_init_43 rfl rfl ?_
  refine G_sipush (pc := 44) (v := nI 289) dX8_init_44 (by decide) ?_
  refine I_row (pc := 47) (t := 1) (N := 289) dX8_init_47 rfl aB_ (fun f => rfl) rfl rfl (by decide) rfl (by decide) (by omega) (by omega) (by rw [ob_n (by omega), hB _ (by omega) (by omega), Si_row (t := 1) (n := 289) k6 (by omega) r6]) ?_
  first | refine I_putF (pc := 49) (ty := .array .byte) dX8_init_49 fX8_31 rfl rfl (by decide) (fun f => ⟨rfl, rfl⟩) (by omega) ?_ | refine I_put (pc := 49) (ty := .array .byte) dX8_init_49 fX8_31 rfl (fun f => ⟨rfl, rfl⟩) (by omega) ?_
  refine I_endF (pc := 52) dX8_init_52 rfl (by omega) (by omega) h1 h2 ((hB _ (by omega) (by omega)).trans (mkC_obj k0 rfl)) (fun j hj => ?_) h
  have hj : j < 5 := hj
  rcases (show j = 0 ∨ j = 1 ∨ j = 2 ∨ j = 3 ∨ j = 4 by omega) with rfl | rfl | rfl | rfl | rfl
  all_goals first | rfl | exact congrArg aI (Si_z (k := a) (by omega)).symm | (refine congrArg aI ?_; show _ = (if _ then (-1 : Int32) else 0); rw [if_pos (by omega)])
set_option maxRecDepth 100000 in
set_option maxHeartbeats 4000000 in
theorem i_X7 (hB : ∀ j, 283 ≤ j → j < 288 → B j = mkC Si j) (h1 : 288 ≤ L1) (h2 : s + 67 ≤ L2) (h : Q none (B, 288, s + 67, L1, L2)) : CT sc mX7_init [aR 283] (ob B 283 6 (gDef 6), 284, s, L1, L2) Q := by
  refine I_of (by decide) rfl (by omega) (by omega) ?_
  show G sc mX7_init 0 [some (aR 283)] [] (ob B 283 6 (gDef 6), 284, s, L1, L2) Q
  refine G_aload_n (pc := 0) dX7_init_0 rfl rfl ?_
  refine G_objInit (pc := 1) dX7_init_1 oX7 oI1 oI2 (by decide) (by decide) ?_
  refine G_aload_n (pc := 4) dX7_init_4 rfl rfl ?_
  refine I_new (pc := 5) (ci' := 2) (N := 2) dX7_init_5 (by decide +kernel) rfl rfl (by omega) (by omega) ?_
  refine G_dup (pc := 8) dX7_init_8 rfl ?_
  refine I_callN (av := []) (pc := 9) (z := mX3_init) dX7_init_9 zX3_init lX7_init_11 rfl ?_ ?_ (i_X3 rfl rfl (fun j q1 q2 => by rw [ob_n (by omega)]; exact hB _ (by omega) (by omega)) (Nat.le_refl _) (Nat.le_refl _) ⟨_, rfl, ?_⟩)
  · exact ⟨by omega, by omega⟩
  · exact ⟨by omega, by omega⟩
  first | refine I_putF (pc := 12) (ty := .object "ShownOnce$Program") dX7_init_12 fX7_12 rfl rfl (by decide) (fun f => ⟨rfl, rfl⟩) (by omega) ?_ | refine I_put (pc := 12) (ty := .object "ShownOnce$Program") dX7_init_12 fX7_12 rfl (fun f => ⟨rfl, rfl⟩) (by omega) ?_
  refine G_aload_n (pc := 15) dX7_init_15 rfl rfl ?_
  refine I_new (pc := 16) (ci' := 3) (N := 2) dX7_init_16 (by decide +kernel) rfl rfl (by omega) (by omega) ?_
  refine G_dup (pc := 19) dX7_init_19 rfl ?_
  refine G_bipush (pc := 20) (v := nI 60) dX7_init_20 (by decide) ?_
  refine I_call (av := [_]) (pc := 22) (z := mX4_init) dX7_init_22 zX4_init lX7_init_20 rfl ?_ ?_ (i_X4 (n := 60) rfl rfl (by decide) (by rw [ob_n (by omega)]; exact hB _ (by omega) (by omega)) (by rw [ob_n (by omega)]; exact hB _ (by omega) (by omega)) (Nat.le_refl _) (Nat.le_refl _) ⟨_, rfl, ?_⟩)
  · exact ⟨by omega, by omega⟩
  · exact ⟨by omega, by omega⟩
  first | refine I_putF (pc := 25) (ty := .object "ShownOnce$Row") dX7_init_25 fX7_23 rfl rfl (by decide) (fun f => ⟨rfl, rfl⟩) (by omega) ?_ | refine I_put (pc := 25) (ty := .object "ShownOnce$Row") dX7_init_25 fX7_23 rfl (fun f => ⟨rfl, rfl⟩) (by omega) ?_
  refine G_aload_n (pc := 28) dX7_init_28 rfl rfl ?_
  refine G_iconst (pc := 29) (v := nI 0) dX7_init_29 (by decide) ?_
  first | refine I_putF (pc := 30) (ty := .int) dX7_init_30 fX7_27 rfl rfl (by decide) (fun f => ⟨rfl, rfl⟩) (by omega) ?_ | refine I_put (pc := 30) (ty := .int) dX7_init_30 fX7_27 rfl (fun f => ⟨rfl, rfl⟩) (by omega) ?_
  refine I_endF (pc := 33) dX7_init_33 rfl (by omega) (by omega) h1 h2 ((hB _ (by omega) (by omega)).trans (mkC_obj rfl rfl)) (fun j hj => ?_) h
  have hj : j < 3 := hj
  rcases (show j = 0 ∨ j = 1 ∨ j = 2 by omega) with rfl | rfl | rfl
  all_goals first | rfl | exact congrArg aI (Si_z (k := 283) (by omega)).symm | (refine congrArg aI ?_; show _ = (if _ then (-1 : Int32) else 0); rw [if_pos (by omega)])
end N3
