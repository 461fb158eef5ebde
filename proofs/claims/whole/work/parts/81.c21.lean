/-! the class: measureWithout, fitRefusal, makesOddEnd -/
theorem pkd_app {w : Nat → Nat} {t : Nat} : ∀ r : List Nat, pkd w (r ++ [t]) = pkd w r + w t * 2 ^ (4 * r.length)
  | [] => by simp [pkd]
  | a :: r => by
    show w a + 16 * pkd w (r ++ [t]) = w a + 16 * pkd w r + w t * 2 ^ (4 * (r.length + 1))
    rw [pkd_app r, p16_s, Nat.mul_add, Nat.add_assoc]
    congr 2
    ac_rfl
theorem p4_16 (n : Nat) : 16 ^ n = 2 ^ (4 * n) := by rw [Nat.pow_mul]
theorem getD_ln {L : List Nat} {x i : Nat} (h : i < L.length) : (L ++ [x]).getD i 0 = L.getD i 0 := by
  rw [List.getD_eq_getElem?_getD, List.getD_eq_getElem?_getD, List.getElem?_append_left h]
abbrev mwX (a _ : Nat) : Prop := 6 ≤ a ∧ a ≤ 149
abbrev mwA (a : Nat) : Prop := 6 ≤ a ∧ a ≤ 149
theorem CTh.mw {S0 S S' : ST} (h : CTh S0 S) (g : FrN mwX mwA S S') : CTh S0 S' := h.fn g (by omega) (fun a j q z => by omega) (fun a q z => by omega)
def MW (S0 S : ST) (L : List Nat) : Prop := CTh S0 S ∧ LaIs S [] 0 ∧ (∀ j, j = 9 ∨ j = 12 ∨ j = 13 ∨ j = 14 ∨ j = 16 → S.1 6 j = nI 0) ∧ S.1 6 1 = nI L.length ∧ S.1 6 2 = nI (fuN S0 L) ∧ S.1 6 3 = nI (stpN L) ∧ ∀ k, k < L.length → S.2.2 k = some (289 + 7 * L.getD k 0)
theorem ThF_of {S0 S : ST} {but : Nat} (hth : thN S0 ≤ 12) (h : CTh S0 S) : ThF S0 S (shL S0 but) := fun t ht => by
  obtain ⟨h1, h2⟩ := shL_mem ht
  obtain ⟨a1, a2, a3, a4, a5⟩ := (h.2 t (by omega)).1 h1
  exact ⟨a1, a2, a4 (Or.inl h2), a5 h2⟩
section C21
variable {sc : SC} {S : ST} {Q : Option AV → HM → Prop}
set_option maxRecDepth 100000 in
set_option maxHeartbeats 4000000 in
theorem measW_lp {S0 : ST} {but : Nat} {ts : List Nat} (hth : thN S0 ≤ 12) (hbut : but < 4096) (hts : TsOk S0 ts) :
    ∀ (d t : Nat) (L : List Nat) (S : ST), t + d = thN S0 → MW S0 S L → L ++ shF S0 but d t = ts → (∀ (S' : ST) (o2 : Option AV), FrN mwX mwA S S' → MW S0 S' ts → G sc mX9_measureWithout 57 [some (aR 0), some (aI (nI but)), o2] [] (mk S') Q) →
      G sc mX9_measureWithout 9 [some (aR 0), some (aI (nI but)), some (aI (nI t))] [] (mk S) Q := by
  intro d
  induction d with
  | zero =>
    intro t L S ht hM hL h
    have hL : L ++ [] = ts := hL
    rw [List.append_nil] at hL
    subst hL
    refine G_iload_n (pc := 9) dX9_measureWithout_9 rfl rfl ?_
    refine G_aload_n (pc := 10) dX9_measureWithout_10 rfl rfl ?_
    refine S_getI (pc := 11) dX9_measureWithout_11 fX9_27 rfl (by first | rfl | assumption) rfl ?_
    rw [hM.1.1]
    refine N_icmp_ge (pc := 14) (tgt := 57) dX9_measureWithout_14 (by decide) (by omega) (fun c14 => ?_) (fun c14 => absurd c14 (by omega))
    exact h S _ FrN.rf hM
  | succ d ih =>
    intro t L S ht hM hL h
    have hc := (hM.1.2 t (by omega)).1 (by omega)
    have hK := ThK_t t (by omega)
    obtain ⟨k0, k1, k2, k3, k4, k5, k6⟩ := id hK
    have e0 : shF S0 but (d + 1) t = if stN S0 t = 1 ∧ but / 2 ^ t % 2 = 0 then t :: shF S0 but d (t + 1) else shF S0 but d (t + 1) := rfl
    rw [e0] at hL
    have no : ¬ (stN S0 t = 1 ∧ but / 2 ^ t % 2 = 0) → G sc mX9_measureWithout 9 [some (aR 0), some (aI (nI but)), some (aI (nI (t + 1)))] [] (mk S) Q := fun c => by
      rw [if_neg c] at hL
      exact ih (t + 1) L S (by omega) hM hL h
    have hs4 : stN S0 t < 2147483648 := by
      have h1 := Int32.toNatClampNeg_lt (S0.2.1 392 t)
      exact h1
    refine G_iload_n (pc := 9) dX9_measureWithout_9 rfl rfl ?_
    refine G_aload_n (pc := 10) dX9_measureWithout_10 rfl rfl ?_
    refine S_getI (pc := 11) dX9_measureWithout_11 fX9_27 rfl (by first | rfl | assumption) rfl ?_
    rw [hM.1.1]
    refine N_icmp_ge (pc := 14) (tgt := 57) dX9_measureWithout_14 (by decide) (by omega) (fun c14 => absurd c14 (by omega)) (fun c14 => ?_)
    refine G_aload_n (pc := 17) dX9_measureWithout_17 rfl rfl ?_
    refine S_getR (pc := 18) (b := 5) dX9_measureWithout_18 fX9_23 rfl rfl (by first | rfl | assumption) rfl rfl ?_
    refine G_iload_n (pc := 21) dX9_measureWithout_21 rfl rfl ?_
    refine N_aald (pc := 22) (t := 3) (n := 12) (b := 289 + 7 * t) dX9_measureWithout_22 (by first | rfl | assumption) (by first | rfl | assumption) (by decide) (by omega) rfl ?_
    refine S_getI (pc := 23) dX9_measureWithout_23 fX9_145 rfl (by first | rfl | assumption) rfl ?_
    rw [hc.2.2.1]
    refine G_iconst (pc := 26) (v := nI 1) dX9_measureWithout_26 (by decide) ?_
    refine N_icmp_ne (pc := 27) (tgt := 51) dX9_measureWithout_27 (by decide) (by omega) (fun c27 => ?_) (fun c27 => ?_)
    · skip
      refine N_iinc (pc := 51) dX9_measureWithout_51 rfl (by decide) rfl ?_
      refine G_goto (pc := 54) (tgt := 9) dX9_measureWithout_54 (by decide) ?_
      first
      | exact no (fun q => c27 q.1)
      | exact no (fun q => c35 q.2)
    · skip
      refine G_iload_n (pc := 30) dX9_measureWithout_30 rfl rfl ?_
      refine G_iload_n (pc := 31) dX9_measureWithout_31 rfl rfl ?_
      refine G_ishr (pc := 32) dX9_measureWithout_32 ?_
      rw [shrN (by omega) (by omega)]
      refine G_iconst (pc := 33) (v := nI 1) dX9_measureWithout_33 (by decide) ?_
      refine G_iand (pc := 34) dX9_measureWithout_34 ?_
      rw [and1]
      refine N_if_ne (pc := 35) (tgt := 51) dX9_measureWithout_35 (by decide) (by omega) (fun c35 => ?_) (fun c35 => ?_)
      · skip
        refine N_iinc (pc := 51) dX9_measureWithout_51 rfl (by decide) rfl ?_
        refine G_goto (pc := 54) (tgt := 9) dX9_measureWithout_54 (by decide) ?_
        first
        | exact no (fun q => c27 q.1)
        | exact no (fun q => c35 q.2)
      · skip
        rw [if_pos ⟨c27, c35⟩] at hL
        obtain ⟨m1, m2, m3, m4, m5, m6, m7⟩ := hM
        have hlen : L.length + (shF S0 but d (t + 1)).length + 1 ≤ 4 := by
          have := hts.1
          rw [← hL, List.length_append, List.length_cons] at this
          omega
        have hLm : ∀ u ∈ L, esN S0 u ≤ 12 := fun u hu => (hts.2 u (by rw [← hL]; exact List.mem_append_left _ hu)).2.2.2.2.2
        have htm := (hts.2 t (by rw [← hL]; exact List.mem_append_right _ List.mem_cons_self)).2.2.2.2.2
        have b1 : fuN S0 L < 2 ^ (4 * L.length) := by
          have := pkd_lt (u := esN S0) L (fun u hu => by have := hLm u hu; omega)
          rw [p4_16] at this
          exact this
        have b2 : stpN L < 2 ^ (4 * L.length) := by
          have := pkd_lt (u := fun _ => 1) L (fun u hu => by omega)
          rw [p4_16] at this
          exact this
        have he := hc.2.2.2.1 (Or.inl c27)
        refine G_aload_n (pc := 38) dX9_measureWithout_38 rfl rfl ?_
        refine S_getR (pc := 39) (b := 6) dX9_measureWithout_39 fX9_34 rfl rfl (by first | rfl | assumption) rfl rfl ?_
        refine G_aload_n (pc := 42) dX9_measureWithout_42 rfl rfl ?_
        refine S_getR (pc := 43) (b := 5) dX9_measureWithout_43 fX9_23 rfl rfl (by first | rfl | assumption) rfl rfl ?_
        refine G_iload_n (pc := 46) dX9_measureWithout_46 rfl rfl ?_
        refine N_aald (pc := 47) (t := 3) (n := 12) (b := 289 + 7 * t) dX9_measureWithout_47 (by first | rfl | assumption) (by first | rfl | assumption) (by decide) (by omega) rfl ?_
        refine S_callV (av := [_]) (pc := 48) (z := mX0_take) (ci := 0) dX9_measureWithout_48 zX0_take lX9_measureWithout_256 rfl (by first | rfl | assumption) rfl rfl (sX0_take hK (show L.length < 4 by omega) m4 m5 m6 b1 b2 he.1 (by omega) ⟨_, rfl, ?_⟩)
        refine N_iinc (pc := 51) dX9_measureWithout_51 rfl (by decide) rfl ?_
        refine G_goto (pc := 54) (tgt := 9) dX9_measureWithout_54 (by decide) ?_
        have g0 : FrN mwX mwA S (upX (upX (upX (upS S L.length (some (289 + 7 * t))) 6 2 (nI (fuN S0 L + esN S0 t * 2 ^ (4 * L.length)))) 6 3 (nI (stpN L + 1 * 2 ^ (4 * L.length)))) 6 1 (nI (L.length + 1))) := by
          refine ⟨fun a j q => ?_, fun _ _ _ => rfl⟩
          rw [upX_n (by omega), upX_n (by omega), upX_n (by omega)]
          rfl
        refine ih (t + 1) (L ++ [t]) _ (by omega) ⟨m1.mw g0, m2.k (fun j => ?_) (fun _ _ _ _ => rfl), fun j hj => ?_, ?_, ?_, ?_, fun k hk => ?_⟩ (by rw [List.append_assoc]; exact hL) (fun S' o2 w1 w2 => h S' o2 (g0.tr w1) w2)
        · rw [upX_n (by omega), upX_n (by omega), upX_n (by omega)]; rfl
        · rw [upX_n (by omega), upX_n (by omega), upX_n (by omega)]; exact m3 j hj
        · rw [upX_s]; simp
        · rw [upX_n (by omega), upX_n (by omega), upX_s]
          unfold fuN
          rw [pkd_app]
        · rw [upX_n (by omega), upX_s]
          unfold stpN
          rw [pkd_app]
        · show (if k = L.length then some (289 + 7 * t) else S.2.2 k) = _
          by_cases e : k = L.length
          · subst e
            rw [if_pos rfl]
            simp
          · have hk : k < L.length := by simp at hk; omega
            rw [if_neg e, getD_ln hk]
            exact m7 k hk
set_option maxRecDepth 100000 in
set_option maxHeartbeats 4000000 in
theorem sX9_measureWithout {S0 : ST} {but g : Nat} {LB : List (Nat × Nat)} (ha : MIa S0) (hb : MIb S0) (h4 : (shL S0 0).length ≤ 4) (hbut : but < 4096) (h0 : shL S0 but ≠ []) (hC : CTh S0 S) (hLa : LaIs S LB g) (h : ∀ S', FrN mwX mwA S S' → FtM S0 S' (shL S0 but) → S'.1 6 16 = nI 0 → Q none (mk S')) : CT sc mX9_measureWithout [aR 0, aI (nI but)] (mk S) Q := by
  refine S_of (by decide) rfl ?_
  show G sc mX9_measureWithout 0 [some (aR 0), some (aI (nI but)), none] [] (mk S) Q
  have hth := thB ha
  have hts := TsOk_sh (but := but) ha hb h4
  have hby := EnBy_sh (but := but) hb
  refine G_aload_n (pc := 0) dX9_measureWithout_0 rfl rfl ?_
  refine S_getR (pc := 1) (b := 6) dX9_measureWithout_1 fX9_34 rfl rfl (by first | rfl | assumption) rfl rfl ?_
  refine S_callV (av := []) (pc := 4) (z := mX0_clear) (ci := 0) dX9_measureWithout_4 zX0_clear lX9_measureWithout_255 rfl (by first | rfl | assumption) rfl rfl (sX0_clear hLa (fun S1 w1 w2 w3 => ⟨_, rfl, ?_⟩))
  refine G_iconst (pc := 7) (v := nI 0) dX9_measureWithout_7 (by decide) ?_
  refine G_istore_n (pc := 8) dX9_measureWithout_8 rfl (by decide) rfl ?_
  have g1 : FrN mwX mwA S S1 := w1.n.mono (fun a j q => by constructor <;> omega) (fun a q => by constructor <;> omega)
  refine measW_lp hth hbut hts (thN S0) 0 [] S1 (by omega) ⟨hC.mw g1, w3, fun j hj => w2 j (by omega), w2 1 (by omega), w2 2 (by omega), w2 3 (by omega), fun k hk => by simp at hk⟩ rfl (fun S2 o2 x1 x2 => ?_)
  obtain ⟨m1, m2, m3, m4, m5, m6, m7⟩ := x2
  refine G_aload_n (pc := 57) dX9_measureWithout_57 rfl rfl ?_
  refine S_getR (pc := 58) (b := 6) dX9_measureWithout_58 fX9_34 rfl rfl (by first | rfl | assumption) rfl rfl ?_
  refine S_callV (av := []) (pc := 61) (z := mX0_measure) (ci := 0) dX9_measureWithout_61 zX0_measure lX9_measureWithout_259 rfl (by first | rfl | assumption) rfl rfl (sX0_measure hts hby h0 ⟨m4, m5, m6, m7, ThF_of hth m1⟩ (fun j hj => m3 j (by omega)) m2 (fun S3 y1 y2 => ⟨_, rfl, ?_⟩))
  refine S_vret (pc := 64) dX9_measureWithout_64 rfl ?_
  exact h S3 (g1.tr (x1.tr (y1.n.mono (fun a j q => by constructor <;> omega) (fun a q => by constructor <;> omega)))) y2 ((y1.1 6 16 (by omega)).trans (m3 16 (by omega)))
/-- Fit as it was left; fresh, if it is so told -/
def FtZ (S0 S : ST) : Prop := ∃ Z, SpT Z S0 (shL S0 0) ∧ TsOk Z (shL S0 0) ∧ EnBy Z (shL S0 0) ∧ FtR Z S (shL S0 0)
def CIf (S0 S : ST) : Prop := (∃ LB g, LaIs S LB g) ∧ (S.1 0 5 = nI 0 ∨ (S.1 0 5 = nI 1 ∧ shL S0 0 ≠ [] ∧ FtZ S0 S))
abbrev fqX (a j : Nat) : Prop := (a = 0 ∧ j = 5) ∨ (6 ≤ a ∧ a ≤ 149)
theorem CTh.fq {S0 S S' : ST} (h : CTh S0 S) (g : FrN fqX mwA S S') : CTh S0 S' := h.fn g (by omega) (fun a j q z => by omega) (fun a q z => by omega)
theorem LaIs.of {S : ST} {Z : ST} {ts : List Nat} (h : FtM Z S ts) : ∃ LB g, LaIs S LB g := ⟨_, h.2.2.1.choose, h.2.2.1.choose_spec⟩
set_option maxRecDepth 100000 in
set_option maxHeartbeats 4000000 in
theorem sX9_fitRefusal {S0 : ST} (hi : MI0 S0) (hC : CTh S0 S) (hF : CIf S0 S) (h2 : shL S0 0 = [] → Q (some (aI (-2))) (mk S))
    (h : shL S0 0 ≠ [] → ∀ S', FrN fqX mwA S S' → CIf S0 S' → FtZ S0 S' → S'.1 0 5 = nI 1 → Q (some (aI (if neA S0 (shL S0 0) = [] then -4 else nI 0))) (mk S')) : CT sc mX9_fitRefusal [aR 0] (mk S) Q := by
  refine S_of (by decide) rfl ?_
  show G sc mX9_fitRefusal 0 [some (aR 0)] [] (mk S) Q
  obtain ⟨ha, hb, he, h4⟩ := hi
  have hth := thB ha
  have K35 : shL S0 0 ≠ [] → ∀ S1, FrN fqX mwA S S1 → S1.1 0 5 = nI 1 → FtZ S0 S1 → G sc mX9_fitRefusal 35 [some (aR 0)] [] (mk S1) Q := by
    intro h0 S1 w1 w2 w3
    obtain ⟨Z, z1, z2, z3, z4⟩ := id w3
    obtain ⟨m1, m2, m3⟩ := z4.1.cnt z2 h0 z3
    have b1 := fitN_le (n := 1) z2 h0 z3
    have b2 := fitN_le (n := 2) z2 h0 z3
    have b3 := fitN_le (n := 3) z2 h0 z3
    have ht := neA_tot z2 h0 z3
    rw [← neA_t z1] at ht
    have e0 : hmN (fitN Z (shL S0 0) 1) (fitN Z (shL S0 0) 2) (fitN Z (shL S0 0) 3) 0 = fitN Z (shL S0 0) 1 + fitN Z (shL S0 0) 2 + fitN Z (shL S0 0) 3 := rfl
    have h := h h0 S1 w1 ⟨LaIs.of z4.1, Or.inr ⟨w2, h0, w3⟩⟩ w3 w2
    refine G_aload_n (pc := 35) dX9_fitRefusal_35 rfl rfl ?_
    refine S_getR (pc := 36) (b := 6) dX9_fitRefusal_36 fX9_34 rfl rfl (by first | rfl | assumption) rfl rfl ?_
    refine G_iconst (pc := 39) (v := nI 0) dX9_fitRefusal_39 (by decide) ?_
    refine S_callV (av := [_]) (pc := 40) (z := mX0_howMany) (ci := 0) dX9_fitRefusal_40 zX0_howMany lX9_fitRefusal_162 rfl (by first | rfl | assumption) rfl rfl (sX0_howMany (k := 0) (by omega) m1 m2 m3 ⟨_, rfl, ?_⟩)
    rw [e0]
    refine N_if_ne (pc := 43) (tgt := 51) dX9_fitRefusal_43 (by decide) (by omega) (fun c43 => ?_) (fun c43 => ?_)
    · skip
      rw [if_neg (fun q => c43 (ht.mp q))] at h
      refine G_iconst (pc := 51) (v := nI 0) dX9_fitRefusal_51 (by decide) ?_
      refine S_iret (pc := 52) dX9_fitRefusal_52 rfl ?_
      exact h
    · skip
      rw [if_pos (ht.mpr c43)] at h
      refine G_bipush (pc := 46) (v := (-4)) dX9_fitRefusal_46 (by decide) ?_
      refine G_goto (pc := 48) (tgt := 52) dX9_fitRefusal_48 (by decide) ?_
      refine S_iret (pc := 52) dX9_fitRefusal_52 rfl ?_
      exact h
  rcases hF.2 with hf | ⟨hf, hf2, hf3⟩
  · skip
    refine G_aload_n (pc := 0) dX9_fitRefusal_0 rfl rfl ?_
    refine G_iconst (pc := 1) (v := nI 1) dX9_fitRefusal_1 (by decide) ?_
    refine S_callV (av := [_]) (pc := 2) (z := mX9_howMany) (ci := 8) dX9_fitRefusal_2 zX9_howMany lX9_fitRefusal_151 rfl (by first | rfl | assumption) rfl rfl (sX9_howMany hb hth hC ⟨_, rfl, ?_⟩)
    rw [cnt_sh hb]
    refine N_if_ne (pc := 5) (tgt := 11) dX9_fitRefusal_5 (by decide) (by omega) (fun c5 => ?_) (fun c5 => ?_)
    · skip
      refine G_aload_n (pc := 11) dX9_fitRefusal_11 rfl rfl ?_
      refine S_getI (pc := 12) dX9_fitRefusal_12 fX9_38 rfl (by first | rfl | assumption) rfl ?_
      rw [hf]
      refine N_if_ne (pc := 15) (tgt := 35) dX9_fitRefusal_15 (by decide) (by omega) (fun c15 => absurd c15 (by decide)) (fun c15 => ?_)
      refine G_aload_n (pc := 18) dX9_fitRefusal_18 rfl rfl ?_
      refine G_iconst (pc := 19) (v := nI 0) dX9_fitRefusal_19 (by decide) ?_
      refine S_callV (av := [_]) (pc := 20) (z := mX9_measureWithout) (ci := 8) dX9_fitRefusal_20 zX9_measureWithout lX9_fitRefusal_249 rfl (by first | rfl | assumption) rfl rfl (sX9_measureWithout (LB := hF.1.choose) (g := hF.1.choose_spec.choose) ha hb h4 (by omega) (fun q => c5 (by rw [q]; rfl)) hC hF.1.choose_spec.choose_spec (fun S1 w1 w2 w3 => ⟨_, rfl, ?_⟩))
      refine G_aload_n (pc := 23) dX9_fitRefusal_23 rfl rfl ?_
      refine S_getR (pc := 24) (b := 6) dX9_fitRefusal_24 fX9_34 rfl rfl (by first | rfl | assumption) rfl rfl ?_
      refine S_callV (av := []) (pc := 27) (z := mX0_rank) (ci := 0) dX9_fitRefusal_27 zX0_rank lX9_fitRefusal_252 rfl (by first | rfl | assumption) rfl rfl (sX0_rank (TsOk_sh ha hb h4) (fun q => c5 (by rw [q]; rfl)) (EnBy_sh hb) w2 w3 (fun S2 x1 x2 => ⟨_, rfl, ?_⟩))
      refine G_aload_n (pc := 30) dX9_fitRefusal_30 rfl rfl ?_
      refine G_iconst (pc := 31) (v := nI 1) dX9_fitRefusal_31 (by decide) ?_
      refine S_putZ (pc := 32) dX9_fitRefusal_32 fX9_38 (by decide) ⟨rfl, rfl⟩ rfl (by first | rfl | assumption) rfl ?_
      have g1 : FrN fqX mwA S S1 := w1.mono (fun a j q => Or.inr q) (fun a q => q)
      have g2 : FrN fqX mwA S1 S2 := x1.n.mono (fun a j q => Or.inr (by omega)) (fun a q => by constructor <;> omega)
      have g3 : FrN fqX mwA S2 (upX S2 0 5 (nI 1)) := (Fr.upX (px := fqX) (pi := mwA) (Or.inl ⟨rfl, rfl⟩)).n
      have g4 : Fr (fun a j => a = 0 ∧ j = 5) (fun _ => False) S2 (upX S2 0 5 (nI 1)) := Fr.upX ⟨rfl, rfl⟩
      obtain ⟨y1, y2⟩ := x2
      obtain ⟨a1, a2, ⟨gg, a3⟩, ⟨a4, a5⟩, a6, a7⟩ := y1
      refine K35 (fun q => c5 (by rw [q]; rfl)) _ (g1.tr (g2.tr g3)) upX_s ⟨S0, SpT.rf, TsOk_sh ha hb h4, EnBy_sh hb, ⟨⟨?_, a2.k (upX_n (by omega)) (fun _ => rfl), ⟨gg, a3.k (fun j => upX_n (by omega)) (fun _ _ _ _ => rfl)⟩, ⟨(upX_n (by omega)).trans a4, a5⟩, (upX_n (by omega)).trans a6, (upX_n (by omega)).trans a7⟩, ⟨(upX_n (by omega)).trans y2.1, y2.2.1, fun i hi => (y2.2.2 i hi).fr g4 (by omega) (by simp)⟩⟩⟩
      obtain ⟨q1, q2, q3, q4, q5⟩ := a1
      exact ⟨(upX_n (by omega)).trans q1, (upX_n (by omega)).trans q2, (upX_n (by omega)).trans q3, q4, q5.fr g4 (fun a j q => by omega) (fun a q => by simp)⟩
    · skip
      refine G_bipush (pc := 8) (v := (-2)) dX9_fitRefusal_8 (by decide) ?_
      refine S_iret (pc := 10) dX9_fitRefusal_10 rfl ?_
      exact h2 (List.length_eq_zero_iff.mp c5)
  · skip
    refine G_aload_n (pc := 0) dX9_fitRefusal_0 rfl rfl ?_
    refine G_iconst (pc := 1) (v := nI 1) dX9_fitRefusal_1 (by decide) ?_
    refine S_callV (av := [_]) (pc := 2) (z := mX9_howMany) (ci := 8) dX9_fitRefusal_2 zX9_howMany lX9_fitRefusal_151 rfl (by first | rfl | assumption) rfl rfl (sX9_howMany hb hth hC ⟨_, rfl, ?_⟩)
    rw [cnt_sh hb]
    refine N_if_ne (pc := 5) (tgt := 11) dX9_fitRefusal_5 (by decide) (by omega) (fun c5 => ?_) (fun c5 => ?_)
    · skip
      refine G_aload_n (pc := 11) dX9_fitRefusal_11 rfl rfl ?_
      refine S_getI (pc := 12) dX9_fitRefusal_12 fX9_38 rfl (by first | rfl | assumption) rfl ?_
      rw [hf]
      refine N_if_ne (pc := 15) (tgt := 35) dX9_fitRefusal_15 (by decide) (by omega) (fun c15 => ?_) (fun c15 => absurd c15 (by decide))
      exact K35 hf2 S FrN.rf hf hf3
    · skip
      refine G_bipush (pc := 8) (v := (-2)) dX9_fitRefusal_8 (by decide) ?_
      refine S_iret (pc := 10) dX9_fitRefusal_10 rfl ?_
      exact h2 (List.length_eq_zero_iff.mp c5)
/-- what makesOddEnd needs of the things -/
def CTw (S0 S : ST) : Prop := S.1 0 3 = nI (thN S0) ∧ ∀ t, t < thN S0 → ∃ s, S.1 (289 + 7 * t) 3 = nI s ∧ s < 1000 ∧ (s = 1 ↔ stN S0 t = 1) ∧ (stN S0 t = 1 → EnIs S (289 + 7 * t) (enB S0 t) (esN S0 t))
theorem CTh.w {S0 S : ST} (h : CTh S0 S) (hb : MIb S0) (hth : thN S0 ≤ 12) : CTw S0 S := ⟨h.1, fun t ht => by
  obtain ⟨a1, a2, a3, a4, a5⟩ := (h.2 t (by omega)).1 ht
  exact ⟨stN S0 t, a3, by have := (hb t ht).1.2; omega, Iff.rfl, fun q => a4 (Or.inl q)⟩⟩
theorem knF_up {S : ST} {sh : List Nat} {i : Nat} : ∀ d, knF S sh i = true → knF S sh (i + d) = true
  | 0, h => h
  | d + 1, h => by
    show (knF S sh (i + d) || _) = true
    rw [knF_up d h]
    rfl
set_option maxRecDepth 100000 in
set_option maxHeartbeats 4000000 in
theorem oddEnd_lp {S0 : ST} {sh : List Nat} {a : Nat} (hb : MIb S0) (hth : thN S0 ≤ 12) (hC : CTw S0 S) (hsh : ∀ k ∈ sh, 1 ≤ k ∧ k ≤ 4) (h : Q (some (aI (bI (!knF S0 sh (thN S0))))) (mk S)) :
    ∀ (d i : Nat), i + d = thN S0 → knF S0 sh i = false → G sc mX9_makesOddEnd 32 [some (aR 0), some (aR a), some (aI (shI sh)), some (aI (nI i))] [] (mk S) Q := by
  intro d
  induction d with
  | zero =>
    intro i hi hk
    have e : i = thN S0 := by omega
    subst e
    rw [hk] at h
    refine G_iload_n (pc := 32) dX9_makesOddEnd_32 rfl rfl ?_
    refine G_aload_n (pc := 33) dX9_makesOddEnd_33 rfl rfl ?_
    refine S_getI (pc := 34) dX9_makesOddEnd_34 fX9_27 rfl (by first | rfl | assumption) rfl ?_
    rw [hC.1]
    refine N_icmp_ge (pc := 37) (tgt := 77) dX9_makesOddEnd_37 (by decide) (by omega) (fun c37 => ?_) (fun c37 => absurd c37 (by omega))
    refine G_iconst (pc := 77) (v := nI 1) dX9_makesOddEnd_77 (by decide) ?_
    refine S_zret (pc := 78) dX9_makesOddEnd_78 rfl rfl ?_
    exact h
  | succ d ih =>
    intro i hi hk
    obtain ⟨si, c1, c2, c3, c4⟩ := hC.2 i (by omega)
    obtain ⟨k0, k1, k2, k3, k4, k5, k6⟩ := ThK_t i (by omega)
    have hs := hb i (by omega)
    have e0 : knF S0 sh (i + 1) = (knF S0 sh i || (decide (stN S0 i = 1) && decide (shp (enB S0 i) (esN S0 i) = sh))) := rfl
    have no : ¬ (stN S0 i = 1 ∧ shp (enB S0 i) (esN S0 i) = sh) → knF S0 sh (i + 1) = false := fun c => by
      rw [e0, hk, Bool.false_or, Bool.and_eq_false_iff, decide_eq_false_iff_not, decide_eq_false_iff_not]
      by_cases z : stN S0 i = 1
      · exact Or.inr (fun q => c ⟨z, q⟩)
      · exact Or.inl z
    by_cases hst : stN S0 i = 1
    · have he := c4 hst
      have hl12 : (shp (enB S0 i) (esN S0 i)).length ≤ 12 := by have := shp_len (enB S0 i) (esN S0 i); have := (hs.2.2.1 hst).2; omega
      have hsi := shI_iff hl12 (shp_mem (enB S0 i) (esN S0 i)) hsh
      refine G_iload_n (pc := 32) dX9_makesOddEnd_32 rfl rfl ?_
      refine G_aload_n (pc := 33) dX9_makesOddEnd_33 rfl rfl ?_
      refine S_getI (pc := 34) dX9_makesOddEnd_34 fX9_27 rfl (by first | rfl | assumption) rfl ?_
      rw [hC.1]
      refine N_icmp_ge (pc := 37) (tgt := 77) dX9_makesOddEnd_37 (by decide) (by omega) (fun c37 => absurd c37 (by omega)) (fun c37 => ?_)
      refine G_aload_n (pc := 40) dX9_makesOddEnd_40 rfl rfl ?_
      refine S_getR (pc := 41) (b := 5) dX9_makesOddEnd_41 fX9_23 rfl rfl (by first | rfl | assumption) rfl rfl ?_
      refine G_iload_n (pc := 44) dX9_makesOddEnd_44 rfl rfl ?_
      refine N_aald (pc := 45) (t := 3) (n := 12) (b := 289 + 7 * i) dX9_makesOddEnd_45 (by first | rfl | assumption) (by first | rfl | assumption) (by decide) (by omega) rfl ?_
      refine S_getI (pc := 46) dX9_makesOddEnd_46 fX9_145 rfl (by first | rfl | assumption) rfl ?_
      rw [c1]
      refine G_iconst (pc := 49) (v := nI 1) dX9_makesOddEnd_49 (by decide) ?_
      refine N_icmp_ne (pc := 50) (tgt := 71) dX9_makesOddEnd_50 (by decide) (by omega) (fun c50 => absurd c50 (by omega)) (fun c50 => ?_)
      refine G_aload_n (pc := 53) dX9_makesOddEnd_53 rfl rfl ?_
      refine S_getR (pc := 54) (b := 5) dX9_makesOddEnd_54 fX9_23 rfl rfl (by first | rfl | assumption) rfl rfl ?_
      refine G_iload_n (pc := 57) dX9_makesOddEnd_57 rfl rfl ?_
      refine N_aald (pc := 58) (t := 3) (n := 12) (b := 289 + 7 * i) dX9_makesOddEnd_58 (by first | rfl | assumption) (by first | rfl | assumption) (by decide) (by omega) rfl ?_
      refine S_getR (pc := 59) (b := 289 + 7 * i + 4) dX9_makesOddEnd_59 fX9_199 rfl rfl (by first | rfl | assumption) rfl rfl ?_
      refine S_callS (av := [_]) (pc := 62) (z := mX1_shapeOf) dX9_makesOddEnd_62 zX1_shapeOf lX9_makesOddEnd_266 rfl (sX1_shapeOf (a := 289 + 7 * i + 4) (m := 35) ⟨k4, k5, rfl⟩ he.1 (by have := (hs.2.2.1 hst).2; omega) he.2 ⟨_, rfl, ?_⟩)
      refine G_iload_n (pc := 65) dX9_makesOddEnd_65 rfl rfl ?_
      refine T_icmp_ne (pc := 66) (tgt := 71) dX9_makesOddEnd_66 (by decide) (fun c66 => ?_) (fun c66 => ?_)
      · skip
        refine N_iinc (pc := 71) dX9_makesOddEnd_71 rfl (by decide) rfl ?_
        refine G_goto (pc := 74) (tgt := 32) dX9_makesOddEnd_74 (by decide) ?_
        exact ih (i + 1) (by omega) (no (fun q => c66 (by rw [q.2])))
      · skip
        have c66 := hsi.mp (Int32.toInt_inj.mp c66)
        have e1 : knF S0 sh (i + 1) = true := by rw [e0, decide_eq_true hst, decide_eq_true c66]; simp
        have e2 := knF_up (thN S0 - (i + 1)) e1
        rw [show i + 1 + (thN S0 - (i + 1)) = thN S0 by omega] at e2
        rw [e2] at h
        refine G_iconst (pc := 69) (v := nI 0) dX9_makesOddEnd_69 (by decide) ?_
        refine S_zret (pc := 70) dX9_makesOddEnd_70 rfl rfl ?_
        exact h
    · skip
      refine G_iload_n (pc := 32) dX9_makesOddEnd_32 rfl rfl ?_
      refine G_aload_n (pc := 33) dX9_makesOddEnd_33 rfl rfl ?_
      refine S_getI (pc := 34) dX9_makesOddEnd_34 fX9_27 rfl (by first | rfl | assumption) rfl ?_
      rw [hC.1]
      refine N_icmp_ge (pc := 37) (tgt := 77) dX9_makesOddEnd_37 (by decide) (by omega) (fun c37 => absurd c37 (by omega)) (fun c37 => ?_)
      refine G_aload_n (pc := 40) dX9_makesOddEnd_40 rfl rfl ?_
      refine S_getR (pc := 41) (b := 5) dX9_makesOddEnd_41 fX9_23 rfl rfl (by first | rfl | assumption) rfl rfl ?_
      refine G_iload_n (pc := 44) dX9_makesOddEnd_44 rfl rfl ?_
      refine N_aald (pc := 45) (t := 3) (n := 12) (b := 289 + 7 * i) dX9_makesOddEnd_45 (by first | rfl | assumption) (by first | rfl | assumption) (by decide) (by omega) rfl ?_
      refine S_getI (pc := 46) dX9_makesOddEnd_46 fX9_145 rfl (by first | rfl | assumption) rfl ?_
      rw [c1]
      refine G_iconst (pc := 49) (v := nI 1) dX9_makesOddEnd_49 (by decide) ?_
      refine N_icmp_ne (pc := 50) (tgt := 71) dX9_makesOddEnd_50 (by decide) (by omega) (fun c50 => ?_) (fun c50 => absurd c50 (by omega))
      refine N_iinc (pc := 71) dX9_makesOddEnd_71 rfl (by decide) rfl ?_
      refine G_goto (pc := 74) (tgt := 32) dX9_makesOddEnd_74 (by decide) ?_
      exact ih (i + 1) (by omega) (no (fun q => hst q.1))
theorem RwK_s : RwK 3 35 := ⟨rfl, rfl, rfl⟩
theorem RwK_p : RwK 1 60 := ⟨rfl, rfl, rfl⟩
abbrev scX (a j : Nat) : Prop := a = 3 ∧ j = 1
abbrev scA (a : Nat) : Prop := a = 4
theorem CTh.scr {S0 S S' : ST} (h : CTh S0 S) (g : Fr scX scA S S') : CTh S0 S' := h.fn g.n (by omega) (fun a j q z => by omega) (fun a q z => by omega)
theorem CTw.scr {S0 S S' : ST} (h : CTw S0 S) (g : Fr scX scA S S') : CTw S0 S' := ⟨(g.1 0 3 (by omega)).trans h.1, fun t ht => by
  obtain ⟨s, a1, a2, a3, a4⟩ := h.2 t ht
  exact ⟨s, (g.1 _ _ (by omega)).trans a1, a2, a3, fun q => (a4 q).fr g (by omega) (by omega)⟩⟩
theorem runP_len35 {b : Nat → Int32} {n : Nat} {ps : List Nat} {q : List Int32} (hok : PgOk ps) (hn : n ≤ 16) (h : runP b n ps = some q) : q.length ≤ 35 := by
  obtain ⟨h1, h2, h3, h4⟩ := hok
  match ps, h1, h2, h4, h with
  | [], _, _, _, h => cases h; simp
  | [x], _, h2, _, h =>
    have hx := h2 x (by simp)
    unfold runP at h
    rcases e : pcL b n x with _ | o
    · rw [e] at h; cases h
    · rw [e] at h
      have l1 := pc_len hx hn e
      have h : some (o ++ []) = some q := h
      cases h
      simp
      split at l1 <;> omega
  | [x, y], _, h2, _, h =>
    have hx := h2 x (by simp)
    have hy := h2 y (by simp)
    unfold runP runP at h
    rcases e : pcL b n x with _ | o
    · rw [e] at h; cases h
    · rcases e2 : pcL b n y with _ | o2
      · rw [e, e2] at h; cases h
      · rw [e, e2] at h
        have l1 := pc_len hx hn e
        have l2 := pc_len hy hn e2
        have h : some (o ++ (o2 ++ [])) = some q := h
        cases h
        simp
        split at l1 <;> split at l2 <;> omega
  | [x, y, z], h1, h2, _, h =>
    have hx := h2 x (by simp)
    have hy := h2 y (by simp)
    have hz := h2 z (by simp)
    unfold runP runP runP at h
    rcases e : pcL b n x with _ | o
    · rw [e] at h; cases h
    · rcases e2 : pcL b n y with _ | o2
      · rw [e, e2] at h; cases h
      · rcases e3 : pcL b n z with _ | o3
        · rw [e, e2, e3] at h; cases h
        · rw [e, e2, e3] at h
          have l1 := pc_len hx hn e
          have l2 := pc_len hy hn e2
          have l3 := pc_len hz hn e3
          have h : some (o ++ (o2 ++ (o3 ++ []))) = some q := h
          cases h
          have h5 := h1.2.2.2.2.1
          simp
          revert l1 l2 l3 h5
          repeat' split
          all_goals intros
          all_goals omega
set_option maxRecDepth 100000 in
set_option maxHeartbeats 4000000 in
theorem sX9_makesOddEnd {S0 : ST} {t : Nat} {ps : List Nat} (ha : MIa S0) (hb : MIb S0) (ht : t < thN S0) (hC : CTw S0 S) (hln : LnIs S (289 + 7 * t) (lnB S0 t) (szN S0 t)) (hpl : PlIs S (289 + 7 * t) (lnB S0 t) (szN S0 t)) (hp : PgIs S 22 ps) (hok : PgOk ps) (hpb : PbOk ps) (h0 : runP (lnB S0 t) (szN S0 t) ps = none → ∀ S', Fr scX scA S S' → Q (some (aI (bI true))) (mk S'))
    (h : ∀ l, runP (lnB S0 t) (szN S0 t) ps = some l → ∀ S', Fr scX scA S S' → RwIs S' 3 l → Q (some (aI (bI (!knF S0 (shp (fun i => l.getD i 0) l.length) (thN S0))))) (mk S')) : CT sc mX9_makesOddEnd [aR 0, aR (289 + 7 * t)] (mk S) Q := by
  refine S_of (by decide) rfl ?_
  show G sc mX9_makesOddEnd 0 [some (aR 0), some (aR (289 + 7 * t)), none, none] [] (mk S) Q
  have hth := thB ha
  have hK := ThK_t t (by omega)
  obtain ⟨z1, z2, z3, z4⟩ := ha.2 t ht
  refine G_aload_n (pc := 0) dX9_makesOddEnd_0 rfl rfl ?_
  refine S_getR (pc := 1) (b := 6) dX9_makesOddEnd_1 fX9_34 rfl rfl (by first | rfl | assumption) rfl rfl ?_
  refine S_getR (pc := 4) (b := 21) dX9_makesOddEnd_4 fX9_163 rfl rfl (by first | rfl | assumption) rfl rfl ?_
  refine G_iconst (pc := 7) (v := nI 0) dX9_makesOddEnd_7 (by decide) ?_
  refine N_aald (pc := 8) (t := 4) (n := 64) (b := 22) dX9_makesOddEnd_8 (by first | rfl | assumption) (by first | rfl | assumption) (by decide) (by omega) rfl ?_
  refine G_aload_n (pc := 9) dX9_makesOddEnd_9 rfl rfl ?_
  refine G_aload_n (pc := 10) dX9_makesOddEnd_10 rfl rfl ?_
  refine S_getR (pc := 11) (b := 3) dX9_makesOddEnd_11 fX9_18 rfl rfl (by first | rfl | assumption) rfl rfl ?_
  refine S_callV (av := [_, _]) (pc := 14) (z := mX3_makeOf) (ci := 2) dX9_makesOddEnd_14 zX3_makeOf lX9_makesOddEnd_167 rfl (by first | rfl | assumption) rfl rfl (sX3_makeOf (PgK_n 0 (by omega)) hK RwK_s (by omega) (Or.inr (by omega)) z3 z4 hp hok.1 hpb hln hpl (fun S1 l x1 x2 x3 => ⟨_, rfl, ?_⟩) (fun x1 S1 x2 x3 => ⟨_, rfl, ?_⟩))
  · skip
    have x2 : Fr scX scA S S1 := x2
    have x3 : RwIs S1 3 l := x3
    have hl := runP_len35 hok z3 x1
    refine B_if_ne (pc := 17) (tgt := 22) dX9_makesOddEnd_17 (by decide) (fun c17 => ?_) (fun c17 => absurd c17 (by decide))
    refine G_aload_n (pc := 22) dX9_makesOddEnd_22 rfl rfl ?_
    refine S_getR (pc := 23) (b := 3) dX9_makesOddEnd_23 fX9_18 rfl rfl (by first | rfl | assumption) rfl rfl ?_
    refine S_callS (av := [_]) (pc := 26) (z := mX1_shapeOf) dX9_makesOddEnd_26 zX1_shapeOf lX9_makesOddEnd_266 rfl (sX1_shapeOf RwK_s x3.1 hl (f := fun i => l.getD i 0) x3.2 ⟨_, rfl, ?_⟩)
    refine G_istore_n (pc := 29) dX9_makesOddEnd_29 rfl (by decide) rfl ?_
    refine G_iconst (pc := 30) (v := nI 0) dX9_makesOddEnd_30 (by decide) ?_
    refine G_istore_n (pc := 31) dX9_makesOddEnd_31 rfl (by decide) rfl ?_
    exact oddEnd_lp hb hth (hC.scr x2) (shp_mem _ _) (h l x1 S1 x2 x3) (thN S0) 0 (by omega) rfl
  skip
  refine B_if_ne (pc := 17) (tgt := 22) dX9_makesOddEnd_17 (by decide) (fun c17 => absurd c17 (by decide)) (fun c17 => ?_)
  refine G_iconst (pc := 20) (v := nI 1) dX9_makesOddEnd_20 (by decide) ?_
  refine S_zret (pc := 21) dX9_makesOddEnd_21 rfl rfl ?_
  exact h0 x1 S1 x2
end C21
