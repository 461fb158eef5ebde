/-! the constructors: ShownOnce (written by gen_init4.py) -/
theorem kd_th : ∀ i, i < 12 → kd (289 + 7 * i) = (7, 0) ∧ kd (289 + 7 * i + 1) = (3, 0) ∧ kd (289 + 7 * i + 2) = (11, 16) ∧ kd (289 + 7 * i + 3) = (10, 40) ∧ kd (289 + 7 * i + 4) = (3, 0) ∧ kd (289 + 7 * i + 5) = (11, 35) ∧ kd (289 + 7 * i + 6) = (11, 289) := by decide
theorem kd_kp : ∀ i, i < 4 → kd (373 + 2 * i) = (2, 0) ∧ kd (373 + 2 * i + 1) = (10, 3) := by decide
theorem kd_sh : ∀ i, i < 4 → kd (381 + 2 * i) = (4, 0) ∧ kd (381 + 2 * i + 1) = (10, 20) := by decide
theorem rf_cm {B : Nat → Cel} {a t n b t' n' : Nat} {g g' : Nat → Option Nat} (h : ¬ a = b) : rf (rf B a t n g) b t' n' g' = rf (rf B b t' n' g') a t n g := by
  funext j
  unfold rf
  by_cases z : j = b
  · rw [if_pos z, if_neg (by omega), if_pos z]
  · rw [if_neg z, if_neg z]
section N8
variable {sc : SC} {Q : Option AV → HM → Prop} {B : Nat → Cel} {F : Nat → AV} {L1 L2 : Nat}
set_option maxRecDepth 100000 in
set_option maxHeartbeats 4000000 in
theorem x9_A (hB : ∀ j, 289 ≤ j → j < 373 → B j = mkC Si j) (hr : B 5 = .inr (.inl (3, 12, rfA Si 5))) (hF : F 2 = aR 5) (h1 : 373 ≤ L1) :
    ∀ (d i s : Nat), i + d = 12 → s + 389 * d ≤ L2 → (∀ s', s' = s + 389 * d → G sc mX9_init 149 [some (aR 0), some (aI (nI 12))] [] (ob B 0 8 F, 373, s', L1, L2) Q) →
      G sc mX9_init 124 [some (aR 0), some (aI (nI i))] [] (ob (rf B 5 3 12 (gi 289 7 i)) 0 8 F, 289 + 7 * i, s, L1, L2) Q := by
  intro d
  induction d with
  | zero =>
    intro i s hi hs h
    have e4 : i = 12 := by omega
    subst e4
    refine G_iload_n (pc := 124) dX9_init_124 rfl rfl ?_
    refine G_bipush (pc := 125) (v := nI 12) dX9_init_125 (by decide) ?_
    refine N_icmp_ge (pc := 127) (tgt := 149) dX9_init_127 (by decide) (by omega) (fun c31 => ?_) (fun c31 => absurd c31 (by omega))
    refine I_rfix (g' := rfA Si 5) (by omega) hr (fun j hj => ?_) ?_
    · show (if j < 12 then some (289 + 7 * j) else none) = some (289 + 7 * j)
      rw [if_pos (by omega)]
    · exact h s (by omega)
  | succ d ih =>
    intro i s hi hs h
    have hK := kd_th i (by omega)
    refine G_iload_n (pc := 124) dX9_init_124 rfl rfl ?_
    refine G_bipush (pc := 125) (v := nI 12) dX9_init_125 (by decide) ?_
    refine N_icmp_ge (pc := 127) (tgt := 149) dX9_init_127 (by decide) (by omega) (fun c31 => absurd c31 (by omega)) (fun c31 => ?_)
    refine G_aload_n (pc := 130) dX9_init_130 rfl rfl ?_
    refine I_get (pc := 131) dX9_init_131 fX9_23 (by omega) hF ?_
    refine G_iload_n (pc := 134) dX9_init_134 rfl rfl ?_
    refine I_new (pc := 135) (ci' := 7) (N := 5) dX9_init_135 (by decide +kernel) rfl rfl (by omega) (by omega) ?_
    refine G_dup (pc := 138) dX9_init_138 rfl ?_
    refine I_callN (av := []) (pc := 139) (z := mX8_init) dX9_init_139 zX8_init lX9_init_81 rfl ?_ ?_ (i_X8 hK.1 hK.2.1 hK.2.2.1 hK.2.2.2.1 hK.2.2.2.2.1 hK.2.2.2.2.2.1 hK.2.2.2.2.2.2 (fun j q1 q2 => by rw [ob_n (by omega), rf_n (by omega)]; exact hB _ (by omega) (by omega)) (Nat.le_refl _) (Nat.le_refl _) ⟨_, rfl, ?_⟩)
    · exact ⟨by omega, by omega⟩
    · exact ⟨by omega, by omega⟩
    refine I_aast (pc := 142) (ck := 7) dX9_init_142 (by omega) (by omega) (by omega) (by omega) (by omega) ((hB _ (by omega) (by omega)).trans (mkC_obj hK.1 rfl)) rfl (fun f => rfl) (by omega) (by omega) ?_
    rw [gi_s]
    refine N_iinc (pc := 143) dX9_init_143 rfl (by decide) rfl ?_
    refine G_goto (pc := 146) (tgt := 124) dX9_init_146 (by decide) ?_
    exact ih (i + 1) (s + 5 + 384) (by omega) (by omega) (fun s' e => h s' (by omega))
set_option maxRecDepth 100000 in
set_option maxHeartbeats 4000000 in
theorem x9_B (hB : ∀ j, 373 ≤ j → j < 381 → B j = mkC Si j) (hr : B 282 = .inr (.inl (4, 4, rfA Si 282))) (hF : F 10 = aR 282) (h1 : 381 ≤ L1) :
    ∀ (d i s : Nat), i + d = 4 → s + 5 * d ≤ L2 → (∀ s', s' = s + 5 * d → G sc mX9_init 175 [some (aR 0), some (aI (nI 4))] [] (ob B 0 8 F, 381, s', L1, L2) Q) →
      G sc mX9_init 151 [some (aR 0), some (aI (nI i))] [] (ob (rf B 282 4 4 (gi 373 2 i)) 0 8 F, 373 + 2 * i, s, L1, L2) Q := by
  intro d
  induction d with
  | zero =>
    intro i s hi hs h
    have e4 : i = 4 := by omega
    subst e4
    refine G_iload_n (pc := 151) dX9_init_151 rfl rfl ?_
    refine G_iconst (pc := 152) (v := nI 4) dX9_init_152 (by decide) ?_
    refine N_icmp_ge (pc := 153) (tgt := 175) dX9_init_153 (by decide) (by omega) (fun c31 => ?_) (fun c31 => absurd c31 (by omega))
    refine I_rfix (g' := rfA Si 282) (by omega) hr (fun j hj => ?_) ?_
    · show (if j < 4 then some (373 + 2 * j) else none) = some (373 + 2 * j)
      rw [if_pos (by omega)]
    · exact h s (by omega)
  | succ d ih =>
    intro i s hi hs h
    have hK := kd_kp i (by omega)
    refine G_iload_n (pc := 151) dX9_init_151 rfl rfl ?_
    refine G_iconst (pc := 152) (v := nI 4) dX9_init_152 (by decide) ?_
    refine N_icmp_ge (pc := 153) (tgt := 175) dX9_init_153 (by decide) (by omega) (fun c31 => absurd c31 (by omega)) (fun c31 => ?_)
    refine G_aload_n (pc := 156) dX9_init_156 rfl rfl ?_
    refine I_get (pc := 157) dX9_init_157 fX9_61 (by omega) hF ?_
    refine G_iload_n (pc := 160) dX9_init_160 rfl rfl ?_
    refine I_new (pc := 161) (ci' := 2) (N := 2) dX9_init_161 (by decide +kernel) rfl rfl (by omega) (by omega) ?_
    refine G_dup (pc := 164) dX9_init_164 rfl ?_
    refine I_callN (av := []) (pc := 165) (z := mX3_init) dX9_init_165 zX3_init lX9_init_82 rfl ?_ ?_ (i_X3 hK.1 hK.2 (fun j q1 q2 => by rw [ob_n (by omega), rf_n (by omega)]; exact hB _ (by omega) (by omega)) (Nat.le_refl _) (Nat.le_refl _) ⟨_, rfl, ?_⟩)
    · exact ⟨by omega, by omega⟩
    · exact ⟨by omega, by omega⟩
    refine I_aast (pc := 168) (ck := 2) dX9_init_168 (by omega) (by omega) (by omega) (by omega) (by omega) ((hB _ (by omega) (by omega)).trans (mkC_obj hK.1 rfl)) rfl (fun f => rfl) (by omega) (by omega) ?_
    rw [gi_s]
    refine N_iinc (pc := 169) dX9_init_169 rfl (by decide) rfl ?_
    refine G_goto (pc := 172) (tgt := 151) dX9_init_172 (by decide) ?_
    exact ih (i + 1) (s + 2 + 3) (by omega) (by omega) (fun s' e => h s' (by omega))
set_option maxRecDepth 100000 in
set_option maxHeartbeats 4000000 in
theorem x9_C (hB : ∀ j, 381 ≤ j → j < 389 → B j = mkC Si j) (hr : B 288 = .inr (.inl (6, 4, rfA Si 288))) (hF : F 13 = aR 288) (h1 : 389 ≤ L1) :
    ∀ (d i s : Nat), i + d = 4 → s + 23 * d ≤ L2 → (∀ s', s' = s + 23 * d → G sc mX9_init 201 [some (aR 0), some (aI (nI 4))] [] (ob B 0 8 F, 389, s', L1, L2) Q) →
      G sc mX9_init 177 [some (aR 0), some (aI (nI i))] [] (ob (rf B 288 6 4 (gi 381 2 i)) 0 8 F, 381 + 2 * i, s, L1, L2) Q := by
  intro d
  induction d with
  | zero =>
    intro i s hi hs h
    have e4 : i = 4 := by omega
    subst e4
    refine G_iload_n (pc := 177) dX9_init_177 rfl rfl ?_
    refine G_iconst (pc := 178) (v := nI 4) dX9_init_178 (by decide) ?_
    refine N_icmp_ge (pc := 179) (tgt := 201) dX9_init_179 (by decide) (by omega) (fun c31 => ?_) (fun c31 => absurd c31 (by omega))
    refine I_rfix (g' := rfA Si 288) (by omega) hr (fun j hj => ?_) ?_
    · show (if j < 4 then some (381 + 2 * j) else none) = some (381 + 2 * j)
      rw [if_pos (by omega)]
    · exact h s (by omega)
  | succ d ih =>
    intro i s hi hs h
    have hK := kd_sh i (by omega)
    refine G_iload_n (pc := 177) dX9_init_177 rfl rfl ?_
    refine G_iconst (pc := 178) (v := nI 4) dX9_init_178 (by decide) ?_
    refine N_icmp_ge (pc := 179) (tgt := 201) dX9_init_179 (by decide) (by omega) (fun c31 => absurd c31 (by omega)) (fun c31 => ?_)
    refine G_aload_n (pc := 182) dX9_init_182 rfl rfl ?_
    refine I_get (pc := 183) dX9_init_183 fX9_77 (by omega) hF ?_
    refine G_iload_n (pc := 186) dX9_init_186 rfl rfl ?_
    refine I_new (pc := 187) (ci' := 4) (N := 3) dX9_init_187 (by decide +kernel) rfl rfl (by omega) (by omega) ?_
    refine G_dup (pc := 190) dX9_init_190 rfl ?_
    refine I_callN (av := []) (pc := 191) (z := mX5_init) dX9_init_191 zX5_init lX9_init_83 rfl ?_ ?_ (i_X5 hK.1 hK.2 (by omega) (fun j q1 q2 => by rw [ob_n (by omega), rf_n (by omega)]; exact hB _ (by omega) (by omega)) (Nat.le_refl _) (Nat.le_refl _) ⟨_, rfl, ?_⟩)
    · exact ⟨by omega, by omega⟩
    · exact ⟨by omega, by omega⟩
    refine I_aast (pc := 194) (ck := 4) dX9_init_194 (by omega) (by omega) (by omega) (by omega) (by omega) ((hB _ (by omega) (by omega)).trans (mkC_obj hK.1 rfl)) rfl (fun f => rfl) (by omega) (by omega) ?_
    rw [gi_s]
    refine N_iinc (pc := 195) dX9_init_195 rfl (by decide) rfl ?_
    refine G_goto (pc := 198) (tgt := 177) dX9_init_198 (by decide) ?_
    exact ih (i + 1) (s + 3 + 20) (by omega) (by omega) (fun s' e => h s' (by omega))
set_option maxRecDepth 100000 in
set_option maxHeartbeats 4000000 in
theorem i_X9 {s : Nat} (hB : ∀ j, 0 ≤ j → j < 389 → B j = mkC Si j) (h1 : 389 ≤ L1) (h2 : s + 115620 ≤ L2) (h : Q none (B, 389, s + 115620, L1, L2)) : CT sc mX9_init [aR 0] (ob B 0 8 (gDef 8), 1, s, L1, L2) Q := by
  refine I_of (by decide) rfl (by omega) (by omega) ?_
  show G sc mX9_init 0 [some (aR 0), none] [] (ob B 0 8 (gDef 8), 1, s, L1, L2) Q
  refine G_aload_n (pc := 0) dX9_init_0 rfl rfl ?_
  refine G_objInit (pc := 1) dX9_init_1 oX9 oI1 oI2 (by decide) (by decide) ?_
  refine G_aload_n (pc := 4) dX9_init_4 rfl rfl ?_
  refine I_new (pc := 5) (ci' := 3) (N := 2) dX9_init_5 (by decide +kernel) rfl rfl (by omega) (by omega) ?_
  refine G_dup (pc := 8) dX9_init_8 rfl ?_
  refine G_bipush (pc := 9) (v := nI 60) dX9_init_9 (by decide) ?_
  refine I_call (av := [_]) (pc := 11) (z := mX4_init) dX9_init_11 zX4_init lX9_init_11 rfl ?_ ?_ (i_X4 (n := 60) rfl rfl (by decide) (by rw [ob_n (by omega)]; exact hB _ (by omega) (by omega)) (by rw [ob_n (by omega)]; exact hB _ (by omega) (by omega)) (Nat.le_refl _) (Nat.le_refl _) ⟨_, rfl, ?_⟩)
  · exact ⟨by omega, by omega⟩
  · exact ⟨by omega, by omega⟩
  first | refine I_putF (pc := 14) (ty := .object "ShownOnce$Row") dX9_init_14 fX9_14 rfl rfl (by decide) (fun f => ⟨rfl, rfl⟩) (by omega) ?_ | refine I_put (pc := 14) (ty := .object "ShownOnce$Row") dX9_init_14 fX9_14 rfl (fun f => ⟨rfl, rfl⟩) (by omega) ?_
  refine G_aload_n (pc := 17) dX9_init_17 rfl rfl ?_
  refine I_new (pc := 18) (ci' := 3) (N := 2) dX9_init_18 (by decide +kernel) rfl rfl (by omega) (by omega) ?_
  refine G_dup (pc := 21) dX9_init_21 rfl ?_
  refine G_bipush (pc := 22) (v := nI 35) dX9_init_22 (by decide) ?_
  refine I_call (av := [_]) (pc := 24) (z := mX4_init) dX9_init_24 zX4_init lX9_init_11 rfl ?_ ?_ (i_X4 (n := 35) rfl rfl (by decide) (by rw [ob_n (by omega)]; exact hB _ (by omega) (by omega)) (by rw [ob_n (by omega)]; exact hB _ (by omega) (by omega)) (Nat.le_refl _) (Nat.le_refl _) ⟨_, rfl, ?_⟩)
  · exact ⟨by omega, by omega⟩
  · exact ⟨by omega, by omega⟩
  first | refine I_putF (pc := 27) (ty := .object "ShownOnce$Row") dX9_init_27 fX9_18 rfl rfl (by decide) (fun f => ⟨rfl, rfl⟩) (by omega) ?_ | refine I_put (pc := 27) (ty := .object "ShownOnce$Row") dX9_init_27 fX9_18 rfl (fun f => ⟨rfl, rfl⟩) (by omega) ?_
  refine G_aload_n (pc := 30) dX9_init_30 rfl rfl ?_
  refine G_bipush (pc := 31) (v := nI 12) dX9_init_31 (by decide) ?_
  refine I_refs (t := 3) (pc := 33) (N := 12) dX9_init_33 clX9_21 (by decide) (fun f => rfl) (by decide) rfl (by decide) (by omega) (by omega) (by omega) ?_
  first | refine I_putF (pc := 36) (ty := .array (.object "ShownOnce$Thing")) dX9_init_36 fX9_23 rfl rfl (by decide) (fun f => ⟨rfl, rfl⟩) (by omega) ?_ | refine I_put (pc := 36) (ty := .array (.object "ShownOnce$Thing")) dX9_init_36 fX9_23 rfl (fun f => ⟨rfl, rfl⟩) (by omega) ?_
  refine G_aload_n (pc := 39) dX9_init_39 rfl rfl ?_
  refine G_iconst (pc := 40) (v := nI 0) dX9_init_40 (by decide) ?_
  first | refine I_putF (pc := 41) (ty := .int) dX9_init_41 fX9_27 rfl rfl (by decide) (fun f => ⟨rfl, rfl⟩) (by omega) ?_ | refine I_put (pc := 41) (ty := .int) dX9_init_41 fX9_27 rfl (fun f => ⟨rfl, rfl⟩) (by omega) ?_
  refine G_aload_n (pc := 44) dX9_init_44 rfl rfl ?_
  refine I_new (pc := 45) (ci' := 0) (N := 17) dX9_init_45 (by decide +kernel) rfl rfl (by omega) (by omega) ?_
  refine G_dup (pc := 48) dX9_init_48 rfl ?_
  refine I_call (av := []) (pc := 49) (z := mX0_init) dX9_init_49 zX0_init lX9_init_33 rfl ?_ ?_ (i_X0 (fun j q1 q2 => by rw [ob_n (by omega), rf_n (by omega)]; exact hB _ (by omega) (by omega)) (Nat.le_refl _) (Nat.le_refl _) ⟨_, rfl, ?_⟩)
  · exact ⟨by omega, by omega⟩
  · exact ⟨by omega, by omega⟩
  first | refine I_putF (pc := 52) (ty := .object "ShownOnce$Fit") dX9_init_52 fX9_34 rfl rfl (by decide) (fun f => ⟨rfl, rfl⟩) (by omega) ?_ | refine I_put (pc := 52) (ty := .object "ShownOnce$Fit") dX9_init_52 fX9_34 rfl (fun f => ⟨rfl, rfl⟩) (by omega) ?_
  refine G_aload_n (pc := 55) dX9_init_55 rfl rfl ?_
  refine G_iconst (pc := 56) (v := nI 0) dX9_init_56 (by decide) ?_
  first | refine I_putF (pc := 57) (ty := .boolean) dX9_init_57 fX9_38 rfl rfl (by decide) (fun f => ⟨rfl, rfl⟩) (by omega) ?_ | refine I_put (pc := 57) (ty := .boolean) dX9_init_57 fX9_38 rfl (fun f => ⟨rfl, rfl⟩) (by omega) ?_
  refine G_aload_n (pc := 60) dX9_init_60 rfl rfl ?_
  refine G_iconst (pc := 61) (v := (-1)) dX9_init_61 (by decide) ?_
  first | refine I_putF (pc := 62) (ty := .int) dX9_init_62 fX9_42 rfl rfl (by decide) (fun f => ⟨rfl, rfl⟩) (by omega) ?_ | refine I_put (pc := 62) (ty := .int) dX9_init_62 fX9_42 rfl (fun f => ⟨rfl, rfl⟩) (by omega) ?_
  refine G_aload_n (pc := 65) dX9_init_65 rfl rfl ?_
  refine I_new (pc := 66) (ci' := 5) (N := 3) dX9_init_66 (by decide +kernel) rfl rfl (by omega) (by omega) ?_
  refine G_dup (pc := 69) dX9_init_69 rfl ?_
  refine I_call (av := []) (pc := 70) (z := mX6_init) dX9_init_70 zX6_init lX9_init_47 rfl ?_ ?_ (i_X6 (fun j q1 q2 => by rw [ob_n (by omega), rf_n (by omega)]; exact hB _ (by omega) (by omega)) (Nat.le_refl _) (Nat.le_refl _) ⟨_, rfl, ?_⟩)
  · exact ⟨by omega, by omega⟩
  · exact ⟨by omega, by omega⟩
  first | refine I_putF (pc := 73) (ty := .object "ShownOnce$Tally") dX9_init_73 fX9_48 rfl rfl (by decide) (fun f => ⟨rfl, rfl⟩) (by omega) ?_ | refine I_put (pc := 73) (ty := .object "ShownOnce$Tally") dX9_init_73 fX9_48 rfl (fun f => ⟨rfl, rfl⟩) (by omega) ?_
  refine G_aload_n (pc := 76) dX9_init_76 rfl rfl ?_
  refine G_sipush (pc := 77) (v := nI 512) dX9_init_77 (by decide) ?_
  refine I_row (pc := 80) (t := 0) (N := 512) dX9_init_80 rfl aI_ (fun f => rfl) rfl rfl (by decide) rfl (by decide) (by omega) (by omega) (by rw [ob_n (by omega), rf_n (by omega), hB _ (by omega) (by omega), Si_row (t := 0) (n := 512) rfl (by omega) (by omega)]) ?_
  first | refine I_putF (pc := 82) (ty := .array .int) dX9_init_82 fX9_52 rfl rfl (by decide) (fun f => ⟨rfl, rfl⟩) (by omega) ?_ | refine I_put (pc := 82) (ty := .array .int) dX9_init_82 fX9_52 rfl (fun f => ⟨rfl, rfl⟩) (by omega) ?_
  refine G_aload_n (pc := 85) dX9_init_85 rfl rfl ?_
  refine G_iconst (pc := 86) (v := nI 0) dX9_init_86 (by decide) ?_
  first | refine I_putF (pc := 87) (ty := .int) dX9_init_87 fX9_56 rfl rfl (by decide) (fun f => ⟨rfl, rfl⟩) (by omega) ?_ | refine I_put (pc := 87) (ty := .int) dX9_init_87 fX9_56 rfl (fun f => ⟨rfl, rfl⟩) (by omega) ?_
  refine G_aload_n (pc := 90) dX9_init_90 rfl rfl ?_
  refine G_iconst (pc := 91) (v := nI 4) dX9_init_91 (by decide) ?_
  refine I_refs (t := 4) (pc := 92) (N := 4) dX9_init_92 clX9_59 (by decide) (fun f => rfl) (by decide) rfl (by decide) (by omega) (by omega) (by omega) ?_
  first | refine I_putF (pc := 95) (ty := .array (.object "ShownOnce$Program")) dX9_init_95 fX9_61 rfl rfl (by decide) (fun f => ⟨rfl, rfl⟩) (by omega) ?_ | refine I_put (pc := 95) (ty := .array (.object "ShownOnce$Program")) dX9_init_95 fX9_61 rfl (fun f => ⟨rfl, rfl⟩) (by omega) ?_
  refine G_aload_n (pc := 98) dX9_init_98 rfl rfl ?_
  refine G_iconst (pc := 99) (v := nI 0) dX9_init_99 (by decide) ?_
  first | refine I_putF (pc := 100) (ty := .int) dX9_init_100 fX9_65 rfl rfl (by decide) (fun f => ⟨rfl, rfl⟩) (by omega) ?_ | refine I_put (pc := 100) (ty := .int) dX9_init_100 fX9_65 rfl (fun f => ⟨rfl, rfl⟩) (by omega) ?_
  refine G_aload_n (pc := 103) dX9_init_103 rfl rfl ?_
  refine I_new (pc := 104) (ci' := 6) (N := 3) dX9_init_104 (by decide +kernel) rfl rfl (by omega) (by omega) ?_
  refine G_dup (pc := 107) dX9_init_107 rfl ?_
  refine I_callN (av := []) (pc := 108) (z := mX7_init) dX9_init_108 zX7_init lX9_init_70 rfl ?_ ?_ (i_X7 (fun j q1 q2 => by rw [ob_n (by omega), rf_n (by omega), rf_n (by omega)]; exact hB _ (by omega) (by omega)) (Nat.le_refl _) (Nat.le_refl _) ⟨_, rfl, ?_⟩)
  · exact ⟨by omega, by omega⟩
  · exact ⟨by omega, by omega⟩
  first | refine I_putF (pc := 111) (ty := .object "ShownOnce$TextReader") dX9_init_111 fX9_71 rfl rfl (by decide) (fun f => ⟨rfl, rfl⟩) (by omega) ?_ | refine I_put (pc := 111) (ty := .object "ShownOnce$TextReader") dX9_init_111 fX9_71 rfl (fun f => ⟨rfl, rfl⟩) (by omega) ?_
  refine G_aload_n (pc := 114) dX9_init_114 rfl rfl ?_
  refine G_iconst (pc := 115) (v := nI 4) dX9_init_115 (by decide) ?_
  refine I_refs (t := 6) (pc := 116) (N := 4) dX9_init_116 clX9_75 (by decide) (fun f => rfl) (by decide) rfl (by decide) (by omega) (by omega) (by omega) ?_
  first | refine I_putF (pc := 119) (ty := .array (.object "ShownOnce$Sheet")) dX9_init_119 fX9_77 rfl rfl (by decide) (fun f => ⟨rfl, rfl⟩) (by omega) ?_ | refine I_put (pc := 119) (ty := .array (.object "ShownOnce$Sheet")) dX9_init_119 fX9_77 rfl (fun f => ⟨rfl, rfl⟩) (by omega) ?_
  refine G_iconst (pc := 122) (v := nI 0) dX9_init_122 (by decide) ?_
  refine G_istore_n (pc := 123) dX9_init_123 rfl (by decide) rfl ?_
  rw [rf_cm (a := 5) (b := 282) (by omega), rf_cm (a := 5) (b := 288) (by omega), gi_0 (b := 289) (m := 7)]
  refine x9_A (fun j q1 q2 => by rw [rf_n (by omega), rf_n (by omega)]; exact hB _ (by omega) (by omega)) (by rw [rf_n (by omega), rf_n (by omega), hB _ (by omega) (by omega)]; rfl) rfl (by omega) 12 0 _ (by omega) (by omega) (fun s1 e1 => ?_)
  refine G_iconst (pc := 149) (v := nI 0) dX9_init_149 (by decide) ?_
  refine G_istore_n (pc := 150) dX9_init_150 rfl (by decide) rfl ?_
  rw [← gi_0 (b := 289) (m := 7), gi_0 (b := 373) (m := 2), rf_cm (a := 282) (b := 288) (by omega)]
  refine x9_B (fun j q1 q2 => by rw [rf_n (by omega)]; exact hB _ (by omega) (by omega)) (by rw [rf_n (by omega), hB _ (by omega) (by omega)]; rfl) rfl (by omega) 4 0 _ (by omega) (by omega) (fun s2 e2 => ?_)
  refine G_iconst (pc := 175) (v := nI 0) dX9_init_175 (by decide) ?_
  refine G_istore_n (pc := 176) dX9_init_176 rfl (by decide) rfl ?_
  rw [← gi_0 (b := 373) (m := 2), gi_0 (b := 381) (m := 2)]
  refine x9_C (fun j q1 q2 => hB _ (by omega) (by omega)) (by rw [hB _ (by omega) (by omega)]; rfl) rfl (by omega) 4 0 _ (by omega) (by omega) (fun s3 e3 => ?_)
  refine I_endF (pc := 201) dX9_init_201 rfl (u' := 389) (s' := s + 115620) rfl (by omega) h1 h2 ((hB _ (by omega) (by omega)).trans (mkC_obj (k := 0) (c := 8) (n := 0) rfl rfl)) (fun j hj => ?_) h
  have hj : j < 14 := hj
  rcases (show j = 0 ∨ j = 1 ∨ j = 2 ∨ j = 3 ∨ j = 4 ∨ j = 5 ∨ j = 6 ∨ j = 7 ∨ j = 8 ∨ j = 9 ∨ j = 10 ∨ j = 11 ∨ j = 12 ∨ j = 13 by omega) with rfl | rfl | rfl | rfl | rfl | rfl | rfl | rfl | rfl | rfl | rfl | rfl | rfl | rfl
  all_goals first | rfl | exact congrArg aI (Si_z (k := 0) (by omega)).symm
end N8
