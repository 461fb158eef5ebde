/-! the constructors: the model (written by gen_init3.py) -/
/-- B, but at a there is a row of numbers -/
def rwd (B : Nat → Cel) (a t n : Nat) (g : Nat → Int32) : Nat → Cel := fun j => if j = a then .inl (t, n, g) else B j
theorem rwd_at {B : Nat → Cel} {a t n : Nat} {g : Nat → Int32} : rwd B a t n g a = .inl (t, n, g) := if_pos rfl
theorem rwd_n {B : Nat → Cel} {a t n j : Nat} {g : Nat → Int32} (h : ¬ j = a) : rwd B a t n g j = B j := if_neg h
theorem rwd_id {B : Nat → Cel} {a t n : Nat} {g : Nat → Int32} (h : B a = .inl (t, n, g)) : rwd B a t n g = B := by
  funext j
  unfold rwd
  split
  · rename_i q; rw [q, h]
  · rfl
def gl (i : Nat) : Nat → Int32 := fun j => if j < i then -1 else 0
theorem gl_s {i : Nat} : upd (gl i) i (-1) = gl (i + 1) := by
  funext j
  unfold upd gl
  by_cases q : j = i
  · rw [if_pos q, if_pos (by omega)]
  · rw [if_neg q]
    by_cases z : j < i
    · rw [if_pos z, if_pos (by omega)]
    · rw [if_neg z, if_neg (by omega)]
section N7
variable {sc : SC} {y : MI} {pc : Nat} {L : List (Option AV)} {st : List AV} {Q : Option AV → HM → Prop} {B : Nat → Cel} {F : Nat → AV} {a ci u s L1 L2 : Nat}
theorem I_rowD {at0 : ArrayType} {t : Nat} {x : Int32} {N : Nat} {ty : FieldType} (hd : decode y.2.1 pc = .ok (.newarray at0, 2)) (hty : newarray.typeOf at0 = ty) (hw : Cond.arrayClass ty ∈ gTs) (ht : ∀ f : Cf, (gTy f)[t]? = some (f.2.2.1 t, ty)) (hp : gNob ty = true) (hdf : defaultValue ty = .int 0) (hx : ¬ x < 0) (hN : x.toNatClampNeg = N) (hb : N * componentBytes ty ≤ 536870912) (h1n : u + 1 ≤ L1) (h1s : s + N ≤ L2) (hau : a < u)
    (kk : G sc y (pc + 2) L (aR u :: st) (ob (rwd B u t N (fun _ => 0)) a ci F, u + 1, s + N, L1, L2) Q) : G sc y pc L (aI x :: st) (ob B a ci F, u, s, L1, L2) Q := by
  refine G_newarray hd hty hw ht hp hdf hx hN hb h1n h1s ?_
  have e : gAdd (ob B a ci F, u, s, L1, L2) (.inl (t, N, fun _ => 0)) N = (ob (rwd B u t N (fun _ => 0)) a ci F, u + 1, s + N, L1, L2) := by
    unfold gAdd ob rwd
    refine Prod.ext ?_ rfl
    funext j
    dsimp only
    by_cases q : j = u
    · rw [if_pos q, if_neg (by omega), if_pos q]
    · rw [if_neg q, if_neg q]
  rw [e]
  exact kk
theorem I_iast {b n i : Nat} {g : Nat → Int32} {x : Int32} (hd : decode y.2.1 pc = .ok (.iastore, 1)) (hb : b < u) (hba : ¬ b = a) (hi : i < n) (hn : n < 2147483648) (kk : G sc y (pc + 1) L st (ob (rwd B b 0 n (upd g i x)) a ci F, u, s, L1, L2) Q) : G sc y pc L (aI x :: aI (nI i) :: aR b :: st) (ob (rwd B b 0 n g) a ci F, u, s, L1, L2) Q := by
  refine G_iastore (M := (ob (rwd B b 0 n g) a ci F, u, s, L1, L2)) hd hb ((ob_n hba).trans rwd_at) (vp_in_nI hi hn) ?_
  rw [nI_clamp (by omega)]
  have e : ∀ g', gUp (ob (rwd B b 0 n g) a ci F, u, s, L1, L2) b (.inl (0, n, g')) = (ob (rwd B b 0 n g') a ci F, u, s, L1, L2) := fun g' => by
    unfold gUp ob rwd
    refine Prod.ext ?_ rfl
    funext j
    dsimp only
    by_cases z : j = b
    · rw [if_pos z, if_neg (by omega), if_pos z]
    · rw [if_neg z, if_neg z, if_neg z]
  rw [e]
  exact kk
set_option maxRecDepth 100000 in
set_option maxHeartbeats 4000000 in
theorem x10_lp (hB : ∀ j, 389 ≤ j → j < 413 → B j = mkC Si j) (hF : ∀ j, j < 34 → F j = if off 9 j = 0 then aI 0 else aR (389 + off 9 j)) (h1 : 413 ≤ L1) (h2 : s ≤ L2) (h : Q none (B, 413, s, L1, L2)) :
    ∀ (d i : Nat), i + d = 4 → G sc mX10_init 194 [some (aR 389), some (aI (nI i))] [] (ob (rwd B 410 0 4 (gl i)) 389 9 F, 413, s, L1, L2) Q := by
  have hFl : F 31 = aR 410 := hF 31 (by omega)
  intro d
  induction d with
  | zero =>
    intro i hi
    refine G_iload_n (pc := 194) dX10_init_194 rfl rfl ?_
    refine G_iconst (pc := 195) (v := nI 4) dX10_init_195 (by decide) ?_
    refine N_icmp_ge (pc := 196) (tgt := 212) dX10_init_196 (by decide) (by omega) (fun c31 => ?_) (fun c31 => absurd c31 (by omega))
    have e4 : i = 4 := by omega
    subst e4
    have e : rwd B 410 0 4 (gl 4) = B := rwd_id ((hB 410 (by omega) (by omega)).trans (by
      show Sum.inl (0, 4, Si.2.1 410) = _
      congr 3
      funext j
      show (if 410 = 410 ∧ j < 4 then (-1 : Int32) else 0) = (if j < 4 then -1 else 0)
      by_cases q : j < 4
      · rw [if_pos ⟨rfl, q⟩, if_pos q]
      · rw [if_neg (fun z => q z.2), if_neg q]))
    rw [e]
    refine I_endF (pc := 212) dX10_init_212 rfl (u' := 413) (s' := s) rfl rfl h1 h2 ((hB _ (by omega) (by omega)).trans (mkC_obj (k := 389) (c := 9) (n := 0) rfl rfl)) (fun j hj => ?_) h
    have hj : j < 34 := hj
    rw [hF j hj]
    split
    · exact congrArg aI (Si_z (k := 389) (j := j) (by omega)).symm
    · rfl
  | succ d ih =>
    intro i hi
    refine G_iload_n (pc := 194) dX10_init_194 rfl rfl ?_
    refine G_iconst (pc := 195) (v := nI 4) dX10_init_195 (by decide) ?_
    refine N_icmp_ge (pc := 196) (tgt := 212) dX10_init_196 (by decide) (by omega) (fun c31 => absurd c31 (by omega)) (fun c31 => ?_)
    refine G_aload_n (pc := 199) dX10_init_199 rfl rfl ?_
    refine I_get (pc := 200) dX10_init_200 fX10_71 (by omega) hFl ?_
    refine G_iload_n (pc := 203) dX10_init_203 rfl rfl ?_
    refine G_iconst (pc := 204) (v := (-1)) dX10_init_204 (by decide) ?_
    refine I_iast (pc := 205) dX10_init_205 (by omega) (by omega) (by omega) (by omega) ?_
    rw [gl_s]
    refine N_iinc (pc := 206) dX10_init_206 rfl (by decide) rfl ?_
    refine G_goto (pc := 209) (tgt := 194) dX10_init_209 (by decide) ?_
    exact ih (i + 1) (by omega)
set_option maxRecDepth 100000 in
set_option maxHeartbeats 4000000 in
theorem i_X10 (hB : ∀ j, 389 ≤ j → j < 413 → B j = mkC Si j) (h1 : 413 ≤ L1) (h2 : s + 88219 ≤ L2) (h : Q none (B, 413, s + 88219, L1, L2)) : CT sc mX10_init [aR 389] (ob B 389 9 (gDef 9), 390, s, L1, L2) Q := by
  refine I_of (by decide) rfl (by omega) (by omega) ?_
  show G sc mX10_init 0 [some (aR 389), none] [] (ob B 389 9 (gDef 9), 390, s, L1, L2) Q
  refine G_aload_n (pc := 0) dX10_init_0 rfl rfl ?_
  refine G_objInit (pc := 1) dX10_init_1 oX10 oI1 oI2 (by decide) (by decide) ?_
  refine G_aload_n (pc := 4) dX10_init_4 rfl rfl ?_
  refine G_sipush (pc := 5) (v := nI 192) dX10_init_5 (by decide) ?_
  refine I_row (pc := 8) (t := 0) (N := 192) dX10_init_8 rfl aI_ (fun f => rfl) rfl rfl (by decide) rfl (by decide) (by omega) (by omega) (by rw [ob_n (by omega), hB _ (by omega) (by omega), Si_row (t := 0) (n := 192) rfl (by omega) (by omega)]) ?_
  first | refine I_putF (pc := 10) (ty := .array .int) dX10_init_10 fX10_7 rfl rfl (by decide) (fun f => ⟨rfl, rfl⟩) (by omega) ?_ | refine I_put (pc := 10) (ty := .array .int) dX10_init_10 fX10_7 rfl (fun f => ⟨rfl, rfl⟩) (by omega) ?_
  refine G_aload_n (pc := 13) dX10_init_13 rfl rfl ?_
  refine G_bipush (pc := 14) (v := nI 12) dX10_init_14 (by decide) ?_
  refine I_row (pc := 16) (t := 0) (N := 12) dX10_init_16 rfl aI_ (fun f => rfl) rfl rfl (by decide) rfl (by decide) (by omega) (by omega) (by rw [ob_n (by omega), hB _ (by omega) (by omega), Si_row (t := 0) (n := 12) rfl (by omega) (by omega)]) ?_
  first | refine I_putF (pc := 18) (ty := .array .int) dX10_init_18 fX10_13 rfl rfl (by decide) (fun f => ⟨rfl, rfl⟩) (by omega) ?_ | refine I_put (pc := 18) (ty := .array .int) dX10_init_18 fX10_13 rfl (fun f => ⟨rfl, rfl⟩) (by omega) ?_
  refine G_aload_n (pc := 21) dX10_init_21 rfl rfl ?_
  refine G_bipush (pc := 22) (v := nI 12) dX10_init_22 (by decide) ?_
  refine I_row (pc := 24) (t := 0) (N := 12) dX10_init_24 rfl aI_ (fun f => rfl) rfl rfl (by decide) rfl (by decide) (by omega) (by omega) (by rw [ob_n (by omega), hB _ (by omega) (by omega), Si_row (t := 0) (n := 12) rfl (by omega) (by omega)]) ?_
  first | refine I_putF (pc := 26) (ty := .array .int) dX10_init_26 fX10_16 rfl rfl (by decide) (fun f => ⟨rfl, rfl⟩) (by omega) ?_ | refine I_put (pc := 26) (ty := .array .int) dX10_init_26 fX10_16 rfl (fun f => ⟨rfl, rfl⟩) (by omega) ?_
  refine G_aload_n (pc := 29) dX10_init_29 rfl rfl ?_
  refine G_sipush (pc := 30) (v := nI 432) dX10_init_30 (by decide) ?_
  refine I_row (pc := 33) (t := 0) (N := 432) dX10_init_33 rfl aI_ (fun f => rfl) rfl rfl (by decide) rfl (by decide) (by omega) (by omega) (by rw [ob_n (by omega), hB _ (by omega) (by omega), Si_row (t := 0) (n := 432) rfl (by omega) (by omega)]) ?_
  first | refine I_putF (pc := 35) (ty := .array .int) dX10_init_35 fX10_19 rfl rfl (by decide) (fun f => ⟨rfl, rfl⟩) (by omega) ?_ | refine I_put (pc := 35) (ty := .array .int) dX10_init_35 fX10_19 rfl (fun f => ⟨rfl, rfl⟩) (by omega) ?_
  refine G_aload_n (pc := 38) dX10_init_38 rfl rfl ?_
  refine G_bipush (pc := 39) (v := nI 12) dX10_init_39 (by decide) ?_
  refine I_row (pc := 41) (t := 0) (N := 12) dX10_init_41 rfl aI_ (fun f => rfl) rfl rfl (by decide) rfl (by decide) (by omega) (by omega) (by rw [ob_n (by omega), hB _ (by omega) (by omega), Si_row (t := 0) (n := 12) rfl (by omega) (by omega)]) ?_
  first | refine I_putF (pc := 43) (ty := .array .int) dX10_init_43 fX10_22 rfl rfl (by decide) (fun f => ⟨rfl, rfl⟩) (by omega) ?_ | refine I_put (pc := 43) (ty := .array .int) dX10_init_43 fX10_22 rfl (fun f => ⟨rfl, rfl⟩) (by omega) ?_
  refine G_aload_n (pc := 46) dX10_init_46 rfl rfl ?_
  refine G_bipush (pc := 47) (v := nI 12) dX10_init_47 (by decide) ?_
  refine I_row (pc := 49) (t := 0) (N := 12) dX10_init_49 rfl aI_ (fun f => rfl) rfl rfl (by decide) rfl (by decide) (by omega) (by omega) (by rw [ob_n (by omega), hB _ (by omega) (by omega), Si_row (t := 0) (n := 12) rfl (by omega) (by omega)]) ?_
  first | refine I_putF (pc := 51) (ty := .array .int) dX10_init_51 fX10_25 rfl rfl (by decide) (fun f => ⟨rfl, rfl⟩) (by omega) ?_ | refine I_put (pc := 51) (ty := .array .int) dX10_init_51 fX10_25 rfl (fun f => ⟨rfl, rfl⟩) (by omega) ?_
  refine G_aload_n (pc := 54) dX10_init_54 rfl rfl ?_
  refine G_bipush (pc := 55) (v := nI 60) dX10_init_55 (by decide) ?_
  refine I_row (pc := 57) (t := 0) (N := 60) dX10_init_57 rfl aI_ (fun f => rfl) rfl rfl (by decide) rfl (by decide) (by omega) (by omega) (by rw [ob_n (by omega), hB _ (by omega) (by omega), Si_row (t := 0) (n := 60) rfl (by omega) (by omega)]) ?_
  first | refine I_putF (pc := 59) (ty := .array .int) dX10_init_59 fX10_28 rfl rfl (by decide) (fun f => ⟨rfl, rfl⟩) (by omega) ?_ | refine I_put (pc := 59) (ty := .array .int) dX10_init_59 fX10_28 rfl (fun f => ⟨rfl, rfl⟩) (by omega) ?_
  refine G_aload_n (pc := 62) dX10_init_62 rfl rfl ?_
  refine G_bipush (pc := 63) (v := nI 36) dX10_init_63 (by decide) ?_
  refine I_row (pc := 65) (t := 0) (N := 36) dX10_init_65 rfl aI_ (fun f => rfl) rfl rfl (by decide) rfl (by decide) (by omega) (by omega) (by rw [ob_n (by omega), hB _ (by omega) (by omega), Si_row (t := 0) (n := 36) rfl (by omega) (by omega)]) ?_
  first | refine I_putF (pc := 67) (ty := .array .int) dX10_init_67 fX10_31 rfl rfl (by decide) (fun f => ⟨rfl, rfl⟩) (by omega) ?_ | refine I_put (pc := 67) (ty := .array .int) dX10_init_67 fX10_31 rfl (fun f => ⟨rfl, rfl⟩) (by omega) ?_
  refine G_aload_n (pc := 70) dX10_init_70 rfl rfl ?_
  refine G_iconst (pc := 71) (v := nI 4) dX10_init_71 (by decide) ?_
  refine I_row (pc := 72) (t := 0) (N := 4) dX10_init_72 rfl aI_ (fun f => rfl) rfl rfl (by decide) rfl (by decide) (by omega) (by omega) (by rw [ob_n (by omega), hB _ (by omega) (by omega), Si_row (t := 0) (n := 4) rfl (by omega) (by omega)]) ?_
  first | refine I_putF (pc := 74) (ty := .array .int) dX10_init_74 fX10_34 rfl rfl (by decide) (fun f => ⟨rfl, rfl⟩) (by omega) ?_ | refine I_put (pc := 74) (ty := .array .int) dX10_init_74 fX10_34 rfl (fun f => ⟨rfl, rfl⟩) (by omega) ?_
  refine G_aload_n (pc := 77) dX10_init_77 rfl rfl ?_
  refine G_sipush (pc := 78) (v := nI 4803) dX10_init_78 (by decide) ?_
  refine I_row (pc := 81) (t := 0) (N := 4803) dX10_init_81 rfl aI_ (fun f => rfl) rfl rfl (by decide) rfl (by decide) (by omega) (by omega) (by rw [ob_n (by omega), hB _ (by omega) (by omega), Si_row (t := 0) (n := 4803) rfl (by omega) (by omega)]) ?_
  first | refine I_putF (pc := 83) (ty := .array .int) dX10_init_83 fX10_37 rfl rfl (by decide) (fun f => ⟨rfl, rfl⟩) (by omega) ?_ | refine I_put (pc := 83) (ty := .array .int) dX10_init_83 fX10_37 rfl (fun f => ⟨rfl, rfl⟩) (by omega) ?_
  refine G_aload_n (pc := 86) dX10_init_86 rfl rfl ?_
  refine G_sipush (pc := 87) (v := nI 4803) dX10_init_87 (by decide) ?_
  refine I_row (pc := 90) (t := 0) (N := 4803) dX10_init_90 rfl aI_ (fun f => rfl) rfl rfl (by decide) rfl (by decide) (by omega) (by omega) (by rw [ob_n (by omega), hB _ (by omega) (by omega), Si_row (t := 0) (n := 4803) rfl (by omega) (by omega)]) ?_
  first | refine I_putF (pc := 92) (ty := .array .int) dX10_init_92 fX10_40 rfl rfl (by decide) (fun f => ⟨rfl, rfl⟩) (by omega) ?_ | refine I_put (pc := 92) (ty := .array .int) dX10_init_92 fX10_40 rfl (fun f => ⟨rfl, rfl⟩) (by omega) ?_
  refine G_aload_n (pc := 95) dX10_init_95 rfl rfl ?_
  refine G_sipush (pc := 96) (v := nI 4803) dX10_init_96 (by decide) ?_
  refine I_row (pc := 99) (t := 0) (N := 4803) dX10_init_99 rfl aI_ (fun f => rfl) rfl rfl (by decide) rfl (by decide) (by omega) (by omega) (by rw [ob_n (by omega), hB _ (by omega) (by omega), Si_row (t := 0) (n := 4803) rfl (by omega) (by omega)]) ?_
  first | refine I_putF (pc := 101) (ty := .array .int) dX10_init_101 fX10_43 rfl rfl (by decide) (fun f => ⟨rfl, rfl⟩) (by omega) ?_ | refine I_put (pc := 101) (ty := .array .int) dX10_init_101 fX10_43 rfl (fun f => ⟨rfl, rfl⟩) (by omega) ?_
  refine G_aload_n (pc := 104) dX10_init_104 rfl rfl ?_
  refine G_sipush (pc := 105) (v := nI 4803) dX10_init_105 (by decide) ?_
  refine I_row (pc := 108) (t := 0) (N := 4803) dX10_init_108 rfl aI_ (fun f => rfl) rfl rfl (by decide) rfl (by decide) (by omega) (by omega) (by rw [ob_n (by omega), hB _ (by omega) (by omega), Si_row (t := 0) (n := 4803) rfl (by omega) (by omega)]) ?_
  first | refine I_putF (pc := 110) (ty := .array .int) dX10_init_110 fX10_46 rfl rfl (by decide) (fun f => ⟨rfl, rfl⟩) (by omega) ?_ | refine I_put (pc := 110) (ty := .array .int) dX10_init_110 fX10_46 rfl (fun f => ⟨rfl, rfl⟩) (by omega) ?_
  refine G_aload_n (pc := 113) dX10_init_113 rfl rfl ?_
  refine G_ldc (pc := 114) dX10_init_114 kX10_49 ?_
  refine I_row (pc := 116) (t := 0) (N := 65536) dX10_init_116 rfl aI_ (fun f => rfl) rfl rfl (by decide) rfl (by decide) (by omega) (by omega) (by rw [ob_n (by omega), hB _ (by omega) (by omega), Si_row (t := 0) (n := 65536) rfl (by omega) (by omega)]) ?_
  first | refine I_putF (pc := 118) (ty := .array .int) dX10_init_118 fX10_50 rfl rfl (by decide) (fun f => ⟨rfl, rfl⟩) (by omega) ?_ | refine I_put (pc := 118) (ty := .array .int) dX10_init_118 fX10_50 rfl (fun f => ⟨rfl, rfl⟩) (by omega) ?_
  refine G_aload_n (pc := 121) dX10_init_121 rfl rfl ?_
  refine G_sipush (pc := 122) (v := nI 192) dX10_init_122 (by decide) ?_
  refine I_row (pc := 125) (t := 0) (N := 192) dX10_init_125 rfl aI_ (fun f => rfl) rfl rfl (by decide) rfl (by decide) (by omega) (by omega) (by rw [ob_n (by omega), hB _ (by omega) (by omega), Si_row (t := 0) (n := 192) rfl (by omega) (by omega)]) ?_
  first | refine I_putF (pc := 127) (ty := .array .int) dX10_init_127 fX10_53 rfl rfl (by decide) (fun f => ⟨rfl, rfl⟩) (by omega) ?_ | refine I_put (pc := 127) (ty := .array .int) dX10_init_127 fX10_53 rfl (fun f => ⟨rfl, rfl⟩) (by omega) ?_
  refine G_aload_n (pc := 130) dX10_init_130 rfl rfl ?_
  refine G_sipush (pc := 131) (v := nI 2304) dX10_init_131 (by decide) ?_
  refine I_row (pc := 134) (t := 0) (N := 2304) dX10_init_134 rfl aI_ (fun f => rfl) rfl rfl (by decide) rfl (by decide) (by omega) (by omega) (by rw [ob_n (by omega), hB _ (by omega) (by omega), Si_row (t := 0) (n := 2304) rfl (by omega) (by omega)]) ?_
  first | refine I_putF (pc := 136) (ty := .array .int) dX10_init_136 fX10_56 rfl rfl (by decide) (fun f => ⟨rfl, rfl⟩) (by omega) ?_ | refine I_put (pc := 136) (ty := .array .int) dX10_init_136 fX10_56 rfl (fun f => ⟨rfl, rfl⟩) (by omega) ?_
  refine G_aload_n (pc := 139) dX10_init_139 rfl rfl ?_
  refine G_bipush (pc := 140) (v := nI 64) dX10_init_140 (by decide) ?_
  refine I_row (pc := 142) (t := 0) (N := 64) dX10_init_142 rfl aI_ (fun f => rfl) rfl rfl (by decide) rfl (by decide) (by omega) (by omega) (by rw [ob_n (by omega), hB _ (by omega) (by omega), Si_row (t := 0) (n := 64) rfl (by omega) (by omega)]) ?_
  first | refine I_putF (pc := 144) (ty := .array .int) dX10_init_144 fX10_59 rfl rfl (by decide) (fun f => ⟨rfl, rfl⟩) (by omega) ?_ | refine I_put (pc := 144) (ty := .array .int) dX10_init_144 fX10_59 rfl (fun f => ⟨rfl, rfl⟩) (by omega) ?_
  refine G_aload_n (pc := 147) dX10_init_147 rfl rfl ?_
  refine G_bipush (pc := 148) (v := nI 36) dX10_init_148 (by decide) ?_
  refine I_row (pc := 150) (t := 0) (N := 36) dX10_init_150 rfl aI_ (fun f => rfl) rfl rfl (by decide) rfl (by decide) (by omega) (by omega) (by rw [ob_n (by omega), hB _ (by omega) (by omega), Si_row (t := 0) (n := 36) rfl (by omega) (by omega)]) ?_
  first | refine I_putF (pc := 152) (ty := .array .int) dX10_init_152 fX10_62 rfl rfl (by decide) (fun f => ⟨rfl, rfl⟩) (by omega) ?_ | refine I_put (pc := 152) (ty := .array .int) dX10_init_152 fX10_62 rfl (fun f => ⟨rfl, rfl⟩) (by omega) ?_
  refine G_aload_n (pc := 155) dX10_init_155 rfl rfl ?_
  refine G_bipush (pc := 156) (v := nI 12) dX10_init_156 (by decide) ?_
  refine I_row (pc := 158) (t := 0) (N := 12) dX10_init_158 rfl aI_ (fun f => rfl) rfl rfl (by decide) rfl (by decide) (by omega) (by omega) (by rw [ob_n (by omega), hB _ (by omega) (by omega), Si_row (t := 0) (n := 12) rfl (by omega) (by omega)]) ?_
  first | refine I_putF (pc := 160) (ty := .array .int) dX10_init_160 fX10_65 rfl rfl (by decide) (fun f => ⟨rfl, rfl⟩) (by omega) ?_ | refine I_put (pc := 160) (ty := .array .int) dX10_init_160 fX10_65 rfl (fun f => ⟨rfl, rfl⟩) (by omega) ?_
  refine G_aload_n (pc := 163) dX10_init_163 rfl rfl ?_
  refine G_iconst (pc := 164) (v := nI 3) dX10_init_164 (by decide) ?_
  refine I_row (pc := 165) (t := 0) (N := 3) dX10_init_165 rfl aI_ (fun f => rfl) rfl rfl (by decide) rfl (by decide) (by omega) (by omega) (by rw [ob_n (by omega), hB _ (by omega) (by omega), Si_row (t := 0) (n := 3) rfl (by omega) (by omega)]) ?_
  first | refine I_putF (pc := 167) (ty := .array .int) dX10_init_167 fX10_68 rfl rfl (by decide) (fun f => ⟨rfl, rfl⟩) (by omega) ?_ | refine I_put (pc := 167) (ty := .array .int) dX10_init_167 fX10_68 rfl (fun f => ⟨rfl, rfl⟩) (by omega) ?_
  refine G_aload_n (pc := 170) dX10_init_170 rfl rfl ?_
  refine G_iconst (pc := 171) (v := nI 4) dX10_init_171 (by decide) ?_
  refine I_rowD (pc := 172) (t := 0) (N := 4) dX10_init_172 rfl aI_ (fun f => rfl) rfl rfl (by decide) rfl (by decide) (by omega) (by omega) (by omega) ?_
  first | refine I_putF (pc := 174) (ty := .array .int) dX10_init_174 fX10_71 rfl rfl (by decide) (fun f => ⟨rfl, rfl⟩) (by omega) ?_ | refine I_put (pc := 174) (ty := .array .int) dX10_init_174 fX10_71 rfl (fun f => ⟨rfl, rfl⟩) (by omega) ?_
  refine G_aload_n (pc := 177) dX10_init_177 rfl rfl ?_
  refine G_iconst (pc := 178) (v := nI 4) dX10_init_178 (by decide) ?_
  refine I_row (pc := 179) (t := 0) (N := 4) dX10_init_179 rfl aI_ (fun f => rfl) rfl rfl (by decide) rfl (by decide) (by omega) (by omega) (by rw [ob_n (by omega), rwd_n (by omega), hB _ (by omega) (by omega), Si_row (t := 0) (n := 4) rfl (by omega) (by omega)]) ?_
  first | refine I_putF (pc := 181) (ty := .array .int) dX10_init_181 fX10_74 rfl rfl (by decide) (fun f => ⟨rfl, rfl⟩) (by omega) ?_ | refine I_put (pc := 181) (ty := .array .int) dX10_init_181 fX10_74 rfl (fun f => ⟨rfl, rfl⟩) (by omega) ?_
  refine G_aload_n (pc := 184) dX10_init_184 rfl rfl ?_
  refine G_bipush (pc := 185) (v := nI 80) dX10_init_185 (by decide) ?_
  refine I_row (pc := 187) (t := 0) (N := 80) dX10_init_187 rfl aI_ (fun f => rfl) rfl rfl (by decide) rfl (by decide) (by omega) (by omega) (by rw [ob_n (by omega), rwd_n (by omega), hB _ (by omega) (by omega), Si_row (t := 0) (n := 80) rfl (by omega) (by omega)]) ?_
  first | refine I_putF (pc := 189) (ty := .array .int) dX10_init_189 fX10_77 rfl rfl (by decide) (fun f => ⟨rfl, rfl⟩) (by omega) ?_ | refine I_put (pc := 189) (ty := .array .int) dX10_init_189 fX10_77 rfl (fun f => ⟨rfl, rfl⟩) (by omega) ?_
  refine G_iconst (pc := 192) (v := nI 0) dX10_init_192 (by decide) ?_
  refine G_istore_n (pc := 193) dX10_init_193 rfl (by decide) rfl ?_
  rw [show (fun _ => (0 : Int32)) = gl 0 from funext (fun j => (if_neg (Nat.not_lt_zero j)).symm)]
  refine x10_lp hB (fun j hj => ?_) h1 (by omega) ?_ 4 0 (by omega)
  · rcases (show j = 0 ∨ j = 1 ∨ j = 2 ∨ j = 3 ∨ j = 4 ∨ j = 5 ∨ j = 6 ∨ j = 7 ∨ j = 8 ∨ j = 9 ∨ j = 10 ∨ j = 11 ∨ j = 12 ∨ j = 13 ∨ j = 14 ∨ j = 15 ∨ j = 16 ∨ j = 17 ∨ j = 18 ∨ j = 19 ∨ j = 20 ∨ j = 21 ∨ j = 22 ∨ j = 23 ∨ j = 24 ∨ j = 25 ∨ j = 26 ∨ j = 27 ∨ j = 28 ∨ j = 29 ∨ j = 30 ∨ j = 31 ∨ j = 32 ∨ j = 33 by omega) with rfl | rfl | rfl | rfl | rfl | rfl | rfl | rfl | rfl | rfl | rfl | rfl | rfl | rfl | rfl | rfl | rfl | rfl | rfl | rfl | rfl | rfl | rfl | rfl | rfl | rfl | rfl | rfl | rfl | rfl | rfl | rfl | rfl | rfl <;> rfl
  · refine Eq.mp ?_ h
    congr 4
end N7
