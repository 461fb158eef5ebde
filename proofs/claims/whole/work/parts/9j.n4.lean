/-! the constructors: Tally (written with gen_init.py) -/
def eWc : List (Nat × Cond) := [(252, .classLink RX6 11 RX4), (139, .classLink RX0 9 RX8), (177, .classLink RX0 66 RX3), (131, .classLink RX9 21 RX8), (266, .classLink RX9 59 RX3), (288, .classLink RX9 75 RX5)]
theorem oWc : okW eWc = true := by decide +kernel
theorem clX6_11 : Cond.classLink RX6 11 RX4 ∈ gTs := gm oWc 0 rfl
theorem clX0_9 : Cond.classLink RX0 9 RX8 ∈ gTs := gm oWc 1 rfl
theorem clX0_66 : Cond.classLink RX0 66 RX3 ∈ gTs := gm oWc 2 rfl
theorem clX9_21 : Cond.classLink RX9 21 RX8 ∈ gTs := gm oWc 3 rfl
theorem clX9_59 : Cond.classLink RX9 59 RX3 ∈ gTs := gm oWc 4 rfl
theorem clX9_75 : Cond.classLink RX9 75 RX5 ∈ gTs := gm oWc 5 rfl
/-- the first i of a row of references stand -/
def gi (b m i : Nat) : Nat → Option Nat := fun j => if j < i then some (b + m * j) else none
theorem gi_0 {b m : Nat} : (fun _ => none) = gi b m 0 := by
  funext j
  unfold gi
  rw [if_neg (by omega)]
theorem gi_s {b m i : Nat} : va_up (gi b m i) i (some (b + m * i)) = gi b m (i + 1) := by
  funext j
  unfold va_up gi
  by_cases q : j = i
  · rw [if_pos q, if_pos (by omega), q]
  · rw [if_neg q]
    by_cases z : j < i
    · rw [if_pos z, if_pos (by omega)]
    · rw [if_neg z, if_neg (by omega)]
section N5
variable {sc : SC} {Q : Option AV → HM → Prop} {B : Nat → Cel} {F : Nat → AV} {L1 L2 : Nat}
set_option maxRecDepth 100000 in
set_option maxHeartbeats 4000000 in
theorem x6_lp (hB : ∀ j, 150 ≤ j → j < 281 → B j = mkC Si j) (hF0 : F 0 = aR 151) (hF1 : F 1 = aR 152) (hF2 : F 2 = aI (nI 0)) (h1 : 281 ≤ L1) :
    ∀ (d i s : Nat), i + d = 64 → s + 37 * d ≤ L2 → (∀ s', s' = s + 37 * d → Q none (B, 281, s', L1, L2)) →
      G sc mX6_init 28 [some (aR 150), some (aI (nI i))] [] (ob (rf B 151 5 64 (gi 153 2 i)) 150 5 F, 153 + 2 * i, s, L1, L2) Q := by
  intro d
  induction d with
  | zero =>
    intro i s hi hs h
    refine G_iload_n (pc := 28) dX6_init_28 rfl rfl ?_
    refine G_bipush (pc := 29) (v := nI 64) dX6_init_29 (by decide) ?_
    refine N_icmp_ge (pc := 31) (tgt := 55) dX6_init_31 (by decide) (by omega) (fun c31 => ?_) (fun c31 => absurd c31 (by omega))
    refine I_rfix (g' := rfA Si 151) (by omega) ((hB 151 (by omega) (by omega)).trans rfl) (fun j hj => ?_) ?_
    · show (if j < i then some (153 + 2 * j) else none) = some (153 + 2 * j)
      rw [if_pos (by omega)]
    · refine I_endF (pc := 55) dX6_init_55 rfl (u' := 281) (s' := s) (by omega) rfl h1 (by omega) ((hB _ (by omega) (by omega)).trans (mkC_obj (k := 150) (c := 5) (n := 0) rfl rfl)) (fun j hj => ?_) (h s (by omega))
      have hj : j < 3 := hj
      rcases (show j = 0 ∨ j = 1 ∨ j = 2 by omega) with rfl | rfl | rfl
      · exact hF0
      · exact hF1
      · exact hF2.trans (congrArg aI (Si_z (k := 150) (j := 2) (by omega)).symm)
  | succ d ih =>
    intro i s hi hs h
    have hK := RwK_t i (by omega)
    refine G_iload_n (pc := 28) dX6_init_28 rfl rfl ?_
    refine G_bipush (pc := 29) (v := nI 64) dX6_init_29 (by decide) ?_
    refine N_icmp_ge (pc := 31) (tgt := 55) dX6_init_31 (by decide) (by omega) (fun c31 => absurd c31 (by omega)) (fun c31 => ?_)
    refine G_aload_n (pc := 34) dX6_init_34 rfl rfl ?_
    refine I_get (pc := 35) dX6_init_35 fX6_13 (by omega) hF0 ?_
    refine G_iload_n (pc := 38) dX6_init_38 rfl rfl ?_
    refine I_new (pc := 39) (ci' := 3) (N := 2) dX6_init_39 (by decide +kernel) rfl rfl (by omega) (by omega) ?_
    refine G_dup (pc := 42) dX6_init_42 rfl ?_
    refine G_bipush (pc := 43) (v := nI 35) dX6_init_43 (by decide) ?_
    refine I_call (av := [_]) (pc := 45) (z := mX4_init) dX6_init_45 zX4_init lX6_init_27 rfl ?_ ?_ (i_X4 (n := 35) hK.1 hK.2.1 (by decide) (by rw [ob_n (by omega), rf_n (by omega)]; exact hB _ (by omega) (by omega)) (by rw [ob_n (by omega), rf_n (by omega)]; exact hB _ (by omega) (by omega)) (Nat.le_refl _) (Nat.le_refl _) ⟨_, rfl, ?_⟩)
    · exact ⟨by omega, by omega⟩
    · exact ⟨by omega, by omega⟩
    refine I_aast (pc := 48) (ck := 3) dX6_init_48 (by omega) (by omega) (by omega) (by omega) (by omega) ((hB _ (by omega) (by omega)).trans (mkC_obj hK.1 rfl)) rfl (fun f => rfl) (by omega) (by omega) ?_
    rw [gi_s]
    refine N_iinc (pc := 49) dX6_init_49 rfl (by decide) rfl ?_
    refine G_goto (pc := 52) (tgt := 28) dX6_init_52 (by decide) ?_
    exact ih (i + 1) (s + 2 + 35) (by omega) (by omega) (fun s' e => h s' (by omega))
set_option maxRecDepth 100000 in
set_option maxHeartbeats 4000000 in
theorem i_X6 {s : Nat} (hB : ∀ j, 150 ≤ j → j < 281 → B j = mkC Si j) (h1 : 281 ≤ L1) (h2 : s + 2496 ≤ L2) (h : Q none (B, 281, s + 2496, L1, L2)) : CT sc mX6_init [aR 150] (ob B 150 5 (gDef 5), 151, s, L1, L2) Q := by
  refine I_of (by decide) rfl (by omega) (by omega) ?_
  show G sc mX6_init 0 [some (aR 150), none] [] (ob B 150 5 (gDef 5), 151, s, L1, L2) Q
  refine G_aload_n (pc := 0) dX6_init_0 rfl rfl ?_
  refine G_objInit (pc := 1) dX6_init_1 oX6 oI1 oI2 (by decide) (by decide) ?_
  refine G_aload_n (pc := 4) dX6_init_4 rfl rfl ?_
  refine G_bipush (pc := 5) (v := nI 64) dX6_init_5 (by decide) ?_
  refine I_refs (t := 5) (pc := 7) (N := 64) dX6_init_7 clX6_11 (by decide) (fun f => rfl) (by decide) rfl (by decide) (by omega) (by omega) (by omega) ?_
  first | refine I_putF (pc := 10) (ty := .array (.object "ShownOnce$Row")) dX6_init_10 fX6_13 rfl rfl (by decide) (fun f => ⟨rfl, rfl⟩) (by omega) ?_ | refine I_put (pc := 10) (ty := .array (.object "ShownOnce$Row")) dX6_init_10 fX6_13 rfl (fun f => ⟨rfl, rfl⟩) (by omega) ?_
  refine G_aload_n (pc := 13) dX6_init_13 rfl rfl ?_
  refine G_bipush (pc := 14) (v := nI 64) dX6_init_14 (by decide) ?_
  refine I_row (pc := 16) (t := 0) (N := 64) dX6_init_16 rfl aI_ (fun f => rfl) rfl rfl (by decide) rfl (by decide) (by omega) (by omega) (by rw [ob_n (by omega), rf_n (by omega), hB _ (by omega) (by omega), Si_row (t := 0) (n := 64) rfl (by omega) (by omega)]) ?_
  first | refine I_putF (pc := 18) (ty := .array .int) dX6_init_18 fX6_19 rfl rfl (by decide) (fun f => ⟨rfl, rfl⟩) (by omega) ?_ | refine I_put (pc := 18) (ty := .array .int) dX6_init_18 fX6_19 rfl (fun f => ⟨rfl, rfl⟩) (by omega) ?_
  refine G_aload_n (pc := 21) dX6_init_21 rfl rfl ?_
  refine G_iconst (pc := 22) (v := nI 0) dX6_init_22 (by decide) ?_
  first | refine I_putF (pc := 23) (ty := .int) dX6_init_23 fX6_23 rfl rfl (by decide) (fun f => ⟨rfl, rfl⟩) (by omega) ?_ | refine I_put (pc := 23) (ty := .int) dX6_init_23 fX6_23 rfl (fun f => ⟨rfl, rfl⟩) (by omega) ?_
  refine G_iconst (pc := 26) (v := nI 0) dX6_init_26 (by decide) ?_
  refine G_istore_n (pc := 27) dX6_init_27 rfl (by decide) rfl ?_
  rw [gi_0 (b := 153) (m := 2)]
  exact x6_lp hB rfl rfl rfl h1 64 0 (s + 64 + 64) (by omega) (by omega) (fun s' e => by rw [e, show s + 64 + 64 + 37 * 64 = s + 2496 by omega]; exact h)
end N5
