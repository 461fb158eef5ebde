/-! the class: leastSlips, slips -/
theorem alB_bit {S : ST} : ∀ n t, (alB S n).testBit t = decide (t < n ∧ stN S t = 1)
  | 0, t => by
    show Nat.testBit 0 t = _
    rw [Nat.zero_testBit, decide_eq_false (by omega)]
  | n + 1, t => by
    have ih := alB_bit (S := S) n t
    have hl := alB_lt S n
    show (alB S n + (if stN S n = 1 then 1 else 0) * 2 ^ n).testBit t = _
    by_cases c : stN S n = 1
    · rw [if_pos c, Nat.one_mul, show alB S n + 2 ^ n = 2 ^ n * 1 + alB S n by omega, Nat.two_pow_add_eq_or_of_lt hl, Nat.testBit_or, ih, Nat.mul_one, Nat.testBit_two_pow, Bool.eq_iff_iff]
      simp only [Bool.or_eq_true, decide_eq_true_eq]
      constructor
      · rintro (q | q)
        · subst q; exact ⟨by omega, c⟩
        · exact ⟨by omega, q.2⟩
      · intro q
        by_cases e : n = t
        · exact Or.inl e
        · exact Or.inr ⟨by omega, q.2⟩
    · rw [if_neg c, Nat.zero_mul, Nat.add_zero, ih, Bool.eq_iff_iff, decide_eq_true_eq, decide_eq_true_eq]
      constructor
      · exact fun q => ⟨by omega, q.2⟩
      · intro q
        by_cases e : t = n
        · subst e; exact absurd q.2 c
        · exact ⟨by omega, q.2⟩
theorem shF_in {S : ST} {but : Nat} : ∀ d t0 t, t0 ≤ t → t < t0 + d → stN S t = 1 → but / 2 ^ t % 2 = 0 → t ∈ shF S but d t0
  | 0, t0, t, h1, h2, _, _ => by omega
  | d + 1, t0, t, h1, h2, h3, h4 => by
    unfold shF
    by_cases e : t = t0
    · subst e
      rw [if_pos ⟨h3, h4⟩]
      exact List.mem_cons_self
    · have := shF_in (S := S) (but := but) d (t0 + 1) t (by omega) (by omega) h3 h4
      split
      · exact List.mem_cons_of_mem _ this
      · exact this
theorem shL_nil {S : ST} {but : Nat} : shL S but = [] ↔ ∀ t, t < thN S → stN S t = 1 → but.testBit t = true := by
  constructor
  · intro h t h1 h2
    rcases e : but.testBit t with _ | _
    · have : t ∈ shL S but := shF_in _ 0 t (by omega) (by omega) h2 (by
        have := tbE (v := but) (i := t)
        rw [e] at this
        have h3 : ¬ but / 2 ^ t % 2 = 1 := fun z => by have := this.mp z; cases this
        omega)
      rw [h] at this
      cases this
    · rfl
  · intro h
    rcases e : shL S but with _ | ⟨t, r⟩
    · rfl
    · have ht : t ∈ shF S but (thN S) 0 := by show t ∈ shL S but; rw [e]; exact List.mem_cons_self
      obtain ⟨h1, h2, h3, h4⟩ := shF_mem _ _ _ ht
      have h5 := tbE.mpr (h t (by omega) h3)
      omega
theorem al_0 {S : ST} : alB S (thN S) = 0 ↔ shL S 0 = [] := by
  rw [shL_nil]
  constructor
  · intro h t h1 h2
    have := alB_bit (S := S) (thN S) t
    rw [h, Nat.zero_testBit, decide_eq_true ⟨h1, h2⟩] at this
    cases this
  · intro h
    apply Nat.eq_of_testBit_eq
    intro t
    rw [alB_bit, Nat.zero_testBit, decide_eq_false_iff_not]
    intro q
    have := h t q.1 q.2
    rw [Nat.zero_testBit] at this
    cases this
theorem al_all {S : ST} : shL S (alB S (thN S)) = [] := by
  rw [shL_nil]
  intro t h1 h2
  rw [alB_bit]
  exact decide_eq_true ⟨h1, h2⟩
theorem al_part {S : ST} {x : Nat} (hx : x &&& alB S (thN S) = x) (h : shL S x = []) : x = alB S (thN S) := by
  rw [shL_nil] at h
  apply Nat.eq_of_testBit_eq
  intro t
  rw [alB_bit]
  rcases e : x.testBit t with _ | _
  · symm
    rw [decide_eq_false_iff_not]
    intro q
    rw [h t q.1 q.2] at e
    cases e
  · have : (x &&& alB S (thN S)).testBit t = true := by rw [hx]; exact e
    rw [Nat.testBit_and, alB_bit, Bool.and_eq_true] at this
    exact this.2.symm
theorem alB_4096 {S : ST} (h : thN S ≤ 12) : alB S (thN S) < 4096 := by
  have h1 := alB_lt S (thN S)
  have h2 : 2 ^ thN S ≤ 2 ^ 12 := Nat.pow_le_pow_right (by decide) h
  omega
/-- the slips -/
abbrev slV (S : ST) : Nat := slG S (alB S (thN S)) (alB S (thN S) + 1) 0 (alB S (thN S))
theorem slV_spec {S : ST} : slV S &&& alB S (thN S) = slV S ∧ ftB S (slV S) = true ∧ ∀ x, x &&& alB S (thN S) = x → ftB S x = true → lxl (slV S) x := by
  obtain ⟨h1, h2, h3⟩ := slG_spec (S := S) (all := alB S (thN S)) (alB S (thN S) + 1) 0 (alB S (thN S)) (by omega)
  have hf : ftB S (alB S (thN S)) = true := by unfold ftB; exact decide_eq_true (Or.inl al_all)
  refine ⟨?_, ?_, fun x hx hy => h3 x (by omega) (by have := Nat.and_le_right (n := x) (m := alB S (thN S)); omega) hx hy⟩
  · rcases h1 with h1 | h1
    · rw [slV, h1, Nat.and_self]
    · exact h1.1
  · rcases h1 with h1 | h1
    · rw [slV, h1]; exact hf
    · exact h1.2
theorem slV_lt {S : ST} (h : thN S ≤ 12) : slV S < 4096 := by
  have h1 := (slV_spec (S := S)).1
  have h2 := Nat.and_le_right (n := slV S) (m := alB S (thN S))
  have h3 := alB_4096 h
  omega
/-- how the least slips are found -/
theorem slV_from {S : ST} (h : thN S ≤ 12) (h0 : ftB S 0 = false) : ∃ o, 1 ≤ o ∧ o < 2 ^ pcn (alB S (thN S)) ∧ SP 12 o (alB S (thN S)) = slV S ∧ pcn (slV S) = pcn o := by
  obtain ⟨h1, h2, h3⟩ := slV_spec (S := S)
  have hl := slV_lt h
  have hs := (sb_iff 12 (slV S) (alB S (thN S)) hl).mpr h1
  have e := SP_CO 12 (slV S) (alB S (thN S)) hl hs
  have hc := CO_lt 12 (slV S) (alB S (thN S))
  have hp := SP_pc 12 (CO 12 (slV S) (alB S (thN S))) (alB S (thN S)) hc
  rw [e] at hp
  refine ⟨_, ?_, hc, e, hp⟩
  rcases Nat.eq_zero_or_pos (CO 12 (slV S) (alB S (thN S))) with z | z
  · rw [z, SP_0] at e
    rw [← e, h0] at h2
    cases h2
  · exact z
theorem slV_found {S : ST} {size o : Nat} (h : thN S ≤ 12) (h0 : ftB S 0 = false) (ho : o < 2 ^ pcn (alB S (thN S))) (hp : pcn o = size) (hf : ftB S (SP 12 o (alB S (thN S))) = true) (ht : ∀ o', 1 ≤ o' → o' < 2 ^ pcn (alB S (thN S)) → (pcn o' < size ∨ (pcn o' = size ∧ o' < o)) → ftB S (SP 12 o' (alB S (thN S))) = false) : SP 12 o (alB S (thN S)) = slV S := by
  obtain ⟨h1, h2, h3⟩ := slV_spec (S := S)
  obtain ⟨o2, a1, a2, a3, a4⟩ := slV_from h h0
  have hsb := (sb_iff 12 _ _ (SP_lt 12 o (alB S (thN S)))).mp (SP_sb 12 o (alB S (thN S)))
  have hpx := SP_pc 12 o (alB S (thN S)) ho
  refine (lxl_anti (h3 _ hsb hf) ?_).symm
  have hpx : pcn (SP 12 o (alB S (thN S))) = pcn o := hpx
  unfold lxl
  rw [hpx, a4, hp]
  have nt : ¬ (pcn o2 < size ∨ (pcn o2 = size ∧ o2 < o)) := fun q => by
    have := ht o2 a1 a2 q
    rw [a3, h2] at this
    cases this
  by_cases c : size < pcn o2
  · exact Or.inl c
  · refine Or.inr ⟨by omega, ?_⟩
    rw [← a3]
    rcases Nat.lt_or_ge o o2 with z | z
    · exact Nat.le_of_lt (SP_mono 12 o o2 _ a2 z)
    · have : o = o2 := by omega
      rw [this]
      exact Nat.le_refl _
theorem slV_all {S : ST} (h : thN S ≤ 12) (h0 : ftB S 0 = false) (ht : ∀ o', 1 ≤ o' → o' < 2 ^ pcn (alB S (thN S)) → pcn o' < pcn (alB S (thN S)) → ftB S (SP 12 o' (alB S (thN S))) = false) : alB S (thN S) = slV S := by
  obtain ⟨h1, h2, h3⟩ := slV_spec (S := S)
  obtain ⟨o2, a1, a2, a3, a4⟩ := slV_from h h0
  have hs := (sb_iff 12 (slV S) (alB S (thN S)) (slV_lt h)).mpr h1
  have hle := sb_le 12 _ _ hs
  have hle : pcn (slV S) ≤ pcn (alB S (thN S)) := hle
  refine (sb_eq 12 _ _ (slV_lt h) (alB_4096 h) hs ?_).symm
  show pcn (slV S) = pcn (alB S (thN S))
  rcases Nat.lt_or_ge (pcn o2) (pcn (alB S (thN S))) with z | z
  · have := ht o2 a1 a2 z
    rw [a3, h2] at this
    cases this
  · omega
theorem ftB_0 {S : ST} (hi : MI0 S) (h0 : shL S 0 ≠ []) : ftB S 0 = false ↔ neA S (shL S 0) = [] := by
  obtain ⟨ha, hb, he, h4⟩ := hi
  rw [neA_tot (TsOk_sh ha hb h4) h0 (EnBy_sh hb)]
  unfold ftB
  rw [decide_eq_false_iff_not]
  constructor
  · intro h
    by_cases q : fitN S (shL S 0) 1 + fitN S (shL S 0) 2 + fitN S (shL S 0) 3 = 0
    · exact q
    · exact absurd (by omega) h
  · intro h q
    rcases q with q | q | q | q
    · exact h0 q
    · omega
    · omega
    · omega
def CIs (S0 S : ST) : Prop := S.1 0 6 = -1 ∨ (shL S0 0 ≠ [] ∧ neA S0 (shL S0 0) = [] ∧ S.1 0 6 = sp_slips S0)
section C23
variable {sc : SC} {S : ST} {Q : Option AV → HM → Prop}
set_option maxRecDepth 100000 in
set_option maxHeartbeats 4000000 in
theorem leastS_in {S0 : ST} {size : Nat} (hi : MI0 S0) (h00 : shL S0 0 ≠ []) (h0 : ftB S0 0 = false) (hsz : 1 ≤ size ∧ size < pcn (alB S0 (thN S0))) :
    ∀ (d o : Nat) (S : ST) (o5 : Option AV), o + d = 2 ^ pcn (alB S0 (thN S0)) → 1 ≤ o → CTh S0 S → (∃ LB g, LaIs S LB g) → (∀ o', 1 ≤ o' → o' < 2 ^ pcn (alB S0 (thN S0)) → (pcn o' < size ∨ (pcn o' = size ∧ o' < o)) → ftB S0 (SP 12 o' (alB S0 (thN S0))) = false) →
      (∀ S', FrN mwX mwA S S' → (∃ LB g, LaIs S' LB g) → Q (some (aI (nI (slV S0)))) (mk S')) →
      (∀ (S' : ST) (o4 o5 : Option AV), FrN mwX mwA S S' → (∃ LB g, LaIs S' LB g) → (∀ o', 1 ≤ o' → o' < 2 ^ pcn (alB S0 (thN S0)) → pcn o' < size + 1 → ftB S0 (SP 12 o' (alB S0 (thN S0))) = false) → G sc mX9_leastSlips 111 [some (aR 0), some (aI (nI (alB S0 (thN S0)))), some (aI (nI (pcn (alB S0 (thN S0))))), some (aI (nI size)), o4, o5] [] (mk S') Q) →
      G sc mX9_leastSlips 57 [some (aR 0), some (aI (nI (alB S0 (thN S0)))), some (aI (nI (pcn (alB S0 (thN S0))))), some (aI (nI size)), some (aI (nI o)), o5] [] (mk S) Q := by
  obtain ⟨ha, hb, he, h4⟩ := id hi
  have hth := thB ha
  have hal := alB_4096 hth
  have hm12 : pcn (alB S0 (thN S0)) ≤ 12 := pcG_le 12 _
  have h2m : 2 ^ pcn (alB S0 (thN S0)) ≤ 4096 := by
    have : 2 ^ pcn (alB S0 (thN S0)) ≤ 2 ^ 12 := Nat.pow_le_pow_right (by decide) hm12
    omega
  intro d
  induction d with
  | zero =>
    intro o S o5 ho ho1 hC hL ht hr h
    refine G_iload (pc := 57) dX9_leastSlips_57 rfl ?_
    refine G_iconst (pc := 59) (v := nI 1) dX9_leastSlips_59 (by decide) ?_
    refine G_iload_n (pc := 60) dX9_leastSlips_60 rfl rfl ?_
    refine G_ishl (pc := 61) dX9_leastSlips_61 ?_
    rw [shlN (by omega) (by omega)]
    refine N_icmp_ge (pc := 62) (tgt := 111) dX9_leastSlips_62 (by decide) (by omega) (fun c62 => ?_) (fun c62 => absurd c62 (by omega))
    exact h S _ _ FrN.rf hL (fun o' q1 q2 q3 => ht o' q1 q2 (by omega))
  | succ d ih =>
    intro o S o5 ho ho1 hC hL ht hr h
    have hx := SP_lt 12 o (alB S0 (thN S0))
    have hx : SP 12 o (alB S0 (thN S0)) < 4096 := hx
    have hpo : pcn o ≤ 12 := pcG_le 12 o
    have next : ∀ S1 (o5 : Option AV), FrN mwX mwA S S1 → (∃ LB g, LaIs S1 LB g) → (pcn o = size → ftB S0 (SP 12 o (alB S0 (thN S0))) = false) → G sc mX9_leastSlips 57 [some (aR 0), some (aI (nI (alB S0 (thN S0)))), some (aI (nI (pcn (alB S0 (thN S0))))), some (aI (nI size)), some (aI (nI (o + 1))), o5] [] (mk S1) Q := fun S1 o5 g1 g2 g3 => ih (o + 1) S1 o5 (by omega) (by omega) (hC.mw g1) g2 (fun o' q1 q2 q3 => by
        by_cases e : o' = o ∧ pcn o' = size
        · obtain ⟨rfl, e2⟩ := e
          exact g3 e2
        · exact ht o' q1 q2 (by
            by_cases e3 : o' = o
            · subst e3; omega
            · omega)) (fun S' f => hr S' (g1.tr f)) (fun S' o4 o5 f => h S' o4 o5 (g1.tr f))
    refine G_iload (pc := 57) dX9_leastSlips_57 rfl ?_
    refine G_iconst (pc := 59) (v := nI 1) dX9_leastSlips_59 (by decide) ?_
    refine G_iload_n (pc := 60) dX9_leastSlips_60 rfl rfl ?_
    refine G_ishl (pc := 61) dX9_leastSlips_61 ?_
    rw [shlN (by omega) (by omega)]
    refine N_icmp_ge (pc := 62) (tgt := 111) dX9_leastSlips_62 (by decide) (by omega) (fun c62 => absurd c62 (by omega)) (fun c62 => ?_)
    refine G_iload (pc := 65) dX9_leastSlips_65 rfl ?_
    refine S_callS (av := [_]) (pc := 67) (z := mJ6_bitCount_0f7a4) dX9_leastSlips_67 zJ6_bitCount_0f7a4 lX9_leastSlips_188 rfl (sJ6_bitCount (by omega) ⟨_, rfl, ?_⟩)
    refine G_iload_n (pc := 70) dX9_leastSlips_70 rfl rfl ?_
    refine N_icmp_eq (pc := 71) (tgt := 77) dX9_leastSlips_71 (by decide) (by omega) (fun c71 => ?_) (fun c71 => ?_)
    · skip
      refine G_iload (pc := 77) dX9_leastSlips_77 rfl ?_
      refine G_iload_n (pc := 79) dX9_leastSlips_79 rfl rfl ?_
      refine S_callS (av := [_, _]) (pc := 80) (z := mX9_spread) dX9_leastSlips_80 zX9_spread lX9_leastSlips_262 rfl (sX9_spread (by omega) hal ⟨_, rfl, ?_⟩)
      refine G_istore (pc := 83) dX9_leastSlips_83 (by decide) rfl ?_
      have hpx := SP_pc 12 o (alB S0 (thN S0)) (show o < 2 ^ pcn (alB S0 (thN S0)) by omega)
      have hpx : pcn (SP 12 o (alB S0 (thN S0))) = pcn o := hpx
      have hsb := (sb_iff 12 _ _ (SP_lt 12 o (alB S0 (thN S0)))).mp (SP_sb 12 o (alB S0 (thN S0)))
      have hne : shL S0 (SP 12 o (alB S0 (thN S0))) ≠ [] := fun q => by
        have := al_part hsb q
        rw [this] at hpx
        omega
      have b1 := fitN_le (n := 1) (TsOk_sh ha hb h4) hne (EnBy_sh hb)
      have b2 := fitN_le (n := 2) (TsOk_sh ha hb h4) hne (EnBy_sh hb)
      have b3 := fitN_le (n := 3) (TsOk_sh ha hb h4) hne (EnBy_sh hb)
      have e0 : ∀ a b c, hmN a b c 0 = a + b + c := fun _ _ _ => rfl
      refine G_aload_n (pc := 85) dX9_leastSlips_85 rfl rfl ?_
      refine G_iload (pc := 86) dX9_leastSlips_86 rfl ?_
      refine S_callV (av := [_]) (pc := 88) (z := mX9_measureWithout) (ci := 8) dX9_leastSlips_88 zX9_measureWithout lX9_leastSlips_249 rfl (by first | rfl | assumption) rfl rfl (sX9_measureWithout (LB := hL.choose) (g := hL.choose_spec.choose) ha hb h4 hx hne hC hL.choose_spec.choose_spec (fun S1 w1 w2 w3 => ⟨_, rfl, ?_⟩))
      refine G_aload_n (pc := 91) dX9_leastSlips_91 rfl rfl ?_
      refine S_getR (pc := 92) (b := 6) dX9_leastSlips_92 fX9_34 rfl rfl (by first | rfl | assumption) rfl rfl ?_
      refine G_iconst (pc := 95) (v := nI 0) dX9_leastSlips_95 (by decide) ?_
      refine S_callV (av := [_]) (pc := 96) (z := mX0_howMany) (ci := 0) dX9_leastSlips_96 zX0_howMany lX9_leastSlips_162 rfl (by first | rfl | assumption) rfl rfl (sX0_howMany (k := 0) (by omega) (w2.cnt (TsOk_sh ha hb h4) hne (EnBy_sh hb)).1 (w2.cnt (TsOk_sh ha hb h4) hne (EnBy_sh hb)).2.1 (w2.cnt (TsOk_sh ha hb h4) hne (EnBy_sh hb)).2.2 ⟨_, rfl, ?_⟩)
      rw [e0]
      refine N_if_le (pc := 99) (tgt := 105) dX9_leastSlips_99 (by decide) (by omega) (fun c99 => ?_) (fun c99 => ?_)
      · skip
        refine N_iinc (pc := 105) dX9_leastSlips_105 rfl (by decide) rfl ?_
        refine G_goto (pc := 108) (tgt := 57) dX9_leastSlips_108 (by decide) ?_
        refine next S1 _ w1 (LaIs.of w2) (fun _ => ?_)
        unfold ftB
        rw [decide_eq_false_iff_not]
        intro q
        rcases q with q | q | q | q
        · exact hne q
        · omega
        · omega
        · omega
      · skip
        refine G_iload (pc := 102) dX9_leastSlips_102 rfl ?_
        refine S_iret (pc := 104) dX9_leastSlips_104 rfl ?_
        have hf : ftB S0 (SP 12 o (alB S0 (thN S0))) = true := by unfold ftB; exact decide_eq_true (by omega)
        have e1 := slV_found hth h0 (by omega) c71 hf ht
        have := hr S1 w1 (LaIs.of w2)
        rw [← e1] at this
        exact this
    · skip
      refine G_goto (pc := 74) (tgt := 105) dX9_leastSlips_74 (by decide) ?_
      refine N_iinc (pc := 105) dX9_leastSlips_105 rfl (by decide) rfl ?_
      refine G_goto (pc := 108) (tgt := 57) dX9_leastSlips_108 (by decide) ?_
      exact next S _ FrN.rf hL (fun q => absurd q c71)
set_option maxRecDepth 100000 in
set_option maxHeartbeats 4000000 in
theorem leastS_out {S0 : ST} (hi : MI0 S0) (h00 : shL S0 0 ≠ []) (h0 : ftB S0 0 = false) :
    ∀ (d size : Nat) (S : ST) (o4 o5 : Option AV), size + d = pcn (alB S0 (thN S0)) → 1 ≤ size → CTh S0 S → (∃ LB g, LaIs S LB g) → (∀ o', 1 ≤ o' → o' < 2 ^ pcn (alB S0 (thN S0)) → pcn o' < size → ftB S0 (SP 12 o' (alB S0 (thN S0))) = false) →
      (∀ S', FrN mwX mwA S S' → (∃ LB g, LaIs S' LB g) → Q (some (aI (nI (slV S0)))) (mk S')) →
      G sc mX9_leastSlips 49 [some (aR 0), some (aI (nI (alB S0 (thN S0)))), some (aI (nI (pcn (alB S0 (thN S0))))), some (aI (nI size)), o4, o5] [] (mk S) Q := by
  obtain ⟨ha, hb, he, h4⟩ := id hi
  have hth := thB ha
  have hm12 : pcn (alB S0 (thN S0)) ≤ 12 := pcG_le 12 _
  intro d
  induction d with
  | zero =>
    intro size S o4 o5 hs hs1 hC hL ht hr
    have e : size = pcn (alB S0 (thN S0)) := by omega
    have e1 := slV_all hth h0 (fun o' q1 q2 q3 => ht o' q1 q2 (by omega))
    have hr := hr S FrN.rf hL
    rw [← e1] at hr
    refine G_iload_n (pc := 49) dX9_leastSlips_49 rfl rfl ?_
    refine G_iload_n (pc := 50) dX9_leastSlips_50 rfl rfl ?_
    refine N_icmp_ge (pc := 51) (tgt := 117) dX9_leastSlips_51 (by decide) (by omega) (fun c51 => ?_) (fun c51 => absurd c51 (by omega))
    refine G_iload_n (pc := 117) dX9_leastSlips_117 rfl rfl ?_
    refine S_iret (pc := 118) dX9_leastSlips_118 rfl ?_
    exact hr
  | succ d ih =>
    intro size S o4 o5 hs hs1 hC hL ht hr
    have hpos : 1 ≤ 2 ^ pcn (alB S0 (thN S0)) := Nat.one_le_two_pow
    refine G_iload_n (pc := 49) dX9_leastSlips_49 rfl rfl ?_
    refine G_iload_n (pc := 50) dX9_leastSlips_50 rfl rfl ?_
    refine N_icmp_ge (pc := 51) (tgt := 117) dX9_leastSlips_51 (by decide) (by omega) (fun c51 => absurd c51 (by omega)) (fun c51 => ?_)
    refine G_iconst (pc := 54) (v := nI 1) dX9_leastSlips_54 (by decide) ?_
    refine G_istore (pc := 55) dX9_leastSlips_55 (by decide) rfl ?_
    refine leastS_in hi h00 h0 (by omega) (2 ^ pcn (alB S0 (thN S0)) - 1) 1 S _ (by omega) (by omega) hC hL (fun o' q1 q2 q3 => ht o' q1 q2 (by omega)) hr (fun S1 o4 o5 w1 w2 w3 => ?_)
    refine N_iinc (pc := 111) dX9_leastSlips_111 rfl (by decide) rfl ?_
    refine G_goto (pc := 114) (tgt := 49) dX9_leastSlips_114 (by decide) ?_
    exact ih (size + 1) S1 _ _ (by omega) (by omega) (hC.mw w1) w2 w3 (fun S' f => hr S' (w1.tr f))
set_option maxRecDepth 100000 in
set_option maxHeartbeats 4000000 in
theorem leastS_lp {S0 : ST} (hth : thN S0 ≤ 12) (hC : CTh S0 S) {o3 o4 o5 : Option AV} (h : G sc mX9_leastSlips 37 [some (aR 0), some (aI (nI (alB S0 (thN S0)))), some (aI (nI (thN S0))), o3, o4, o5] [] (mk S) Q) :
    ∀ (d t : Nat), t + d = thN S0 → G sc mX9_leastSlips 4 [some (aR 0), some (aI (nI (alB S0 t))), some (aI (nI t)), o3, o4, o5] [] (mk S) Q := by
  intro d
  induction d with
  | zero =>
    intro t ht
    have e : t = thN S0 := by omega
    subst e
    refine G_iload_n (pc := 4) dX9_leastSlips_4 rfl rfl ?_
    refine G_aload_n (pc := 5) dX9_leastSlips_5 rfl rfl ?_
    refine S_getI (pc := 6) dX9_leastSlips_6 fX9_27 rfl (by first | rfl | assumption) rfl ?_
    rw [hC.1]
    refine N_icmp_ge (pc := 9) (tgt := 37) dX9_leastSlips_9 (by decide) (by omega) (fun c9 => ?_) (fun c9 => absurd c9 (by omega))
    exact h
  | succ d ih =>
    intro t ht
    have hc := (hC.2 t (by omega)).1 (by omega)
    obtain ⟨k0, k1, k2, k3, k4, k5, k6⟩ := ThK_t t (by omega)
    have hs4 : stN S0 t < 2147483648 := Int32.toNatClampNeg_lt (S0.2.1 392 t)
    have hp : 2 ^ t ≤ 2048 := by
      have : 2 ^ t ≤ 2 ^ 11 := Nat.pow_le_pow_right (by decide) (by omega)
      omega
    have e0 : alB S0 (t + 1) = alB S0 t + (if stN S0 t = 1 then 1 else 0) * 2 ^ t := rfl
    have ih2 := ih (t + 1) (by omega)
    rw [e0] at ih2
    refine G_iload_n (pc := 4) dX9_leastSlips_4 rfl rfl ?_
    refine G_aload_n (pc := 5) dX9_leastSlips_5 rfl rfl ?_
    refine S_getI (pc := 6) dX9_leastSlips_6 fX9_27 rfl (by first | rfl | assumption) rfl ?_
    rw [hC.1]
    refine N_icmp_ge (pc := 9) (tgt := 37) dX9_leastSlips_9 (by decide) (by omega) (fun c9 => absurd c9 (by omega)) (fun c9 => ?_)
    refine G_aload_n (pc := 12) dX9_leastSlips_12 rfl rfl ?_
    refine S_getR (pc := 13) (b := 5) dX9_leastSlips_13 fX9_23 rfl rfl (by first | rfl | assumption) rfl rfl ?_
    refine G_iload_n (pc := 16) dX9_leastSlips_16 rfl rfl ?_
    refine N_aald (pc := 17) (t := 3) (n := 12) (b := 289 + 7 * t) dX9_leastSlips_17 (by first | rfl | assumption) (by first | rfl | assumption) (by decide) (by omega) rfl ?_
    refine S_getI (pc := 18) dX9_leastSlips_18 fX9_145 rfl (by first | rfl | assumption) rfl ?_
    rw [hc.2.2.1]
    refine G_iconst (pc := 21) (v := nI 1) dX9_leastSlips_21 (by decide) ?_
    refine N_icmp_ne (pc := 22) (tgt := 31) dX9_leastSlips_22 (by decide) (by omega) (fun c22 => ?_) (fun c22 => ?_)
    · skip
      rw [if_neg c22, Nat.zero_mul, Nat.add_zero] at ih2
      refine N_iinc (pc := 31) dX9_leastSlips_31 rfl (by decide) rfl ?_
      refine G_goto (pc := 34) (tgt := 4) dX9_leastSlips_34 (by decide) ?_
      exact ih2
    · skip
      rw [if_pos c22] at ih2
      refine G_iload_n (pc := 25) dX9_leastSlips_25 rfl rfl ?_
      refine G_iconst (pc := 26) (v := nI 1) dX9_leastSlips_26 (by decide) ?_
      refine G_iload_n (pc := 27) dX9_leastSlips_27 rfl rfl ?_
      refine G_ishl (pc := 28) dX9_leastSlips_28 ?_
      rw [shlN (by omega) (by omega)]
      refine G_ior (pc := 29) dX9_leastSlips_29 ?_
      rw [orN 1 (alB_lt S0 t)]
      refine G_istore_n (pc := 30) dX9_leastSlips_30 rfl (by decide) rfl ?_
      refine N_iinc (pc := 31) dX9_leastSlips_31 rfl (by decide) rfl ?_
      refine G_goto (pc := 34) (tgt := 4) dX9_leastSlips_34 (by decide) ?_
      exact ih2
set_option maxRecDepth 100000 in
set_option maxHeartbeats 4000000 in
theorem sX9_leastSlips {S0 : ST} (hi : MI0 S0) (h00 : shL S0 0 ≠ []) (h0 : ftB S0 0 = false) (hC : CTh S0 S) (hL : ∃ LB g, LaIs S LB g) (h : ∀ S', FrN fqX mwA S S' → S'.1 0 5 = nI 0 → (∃ LB g, LaIs S' LB g) → Q (some (aI (nI (slV S0)))) (mk S')) : CT sc mX9_leastSlips [aR 0] (mk S) Q := by
  refine S_of (by decide) rfl ?_
  show G sc mX9_leastSlips 0 [some (aR 0), none, none, none, none, none] [] (mk S) Q
  have hth := thB hi.1
  have hal := alB_4096 hth
  have hpos : 1 ≤ pcn (alB S0 (thN S0)) := by
    rcases Nat.eq_zero_or_pos (alB S0 (thN S0)) with z | z
    · exact absurd (al_0.mp z) h00
    · exact pcG_pos 12 _ hal z
  have g0 : Fr fqX mwA S (upX S 0 5 (nI 0)) := Fr.upX (Or.inl ⟨rfl, rfl⟩)
  obtain ⟨LB, g, hLa⟩ := hL
  refine G_iconst (pc := 0) (v := nI 0) dX9_leastSlips_0 (by decide) ?_
  refine G_istore_n (pc := 1) dX9_leastSlips_1 rfl (by decide) rfl ?_
  refine G_iconst (pc := 2) (v := nI 0) dX9_leastSlips_2 (by decide) ?_
  refine G_istore_n (pc := 3) dX9_leastSlips_3 rfl (by decide) rfl ?_
  refine leastS_lp hth hC ?_ (thN S0) 0 (by omega)
  refine G_iload_n (pc := 37) dX9_leastSlips_37 rfl rfl ?_
  refine S_callS (av := [_]) (pc := 38) (z := mJ6_bitCount_0f7a4) dX9_leastSlips_38 zJ6_bitCount_0f7a4 lX9_leastSlips_188 rfl (sJ6_bitCount hal ⟨_, rfl, ?_⟩)
  refine G_istore_n (pc := 41) dX9_leastSlips_41 rfl (by decide) rfl ?_
  refine G_aload_n (pc := 42) dX9_leastSlips_42 rfl rfl ?_
  refine G_iconst (pc := 43) (v := nI 0) dX9_leastSlips_43 (by decide) ?_
  refine S_putZ (pc := 44) dX9_leastSlips_44 fX9_38 (by decide) ⟨rfl, rfl⟩ rfl (by first | rfl | assumption) rfl ?_
  refine G_iconst (pc := 47) (v := nI 1) dX9_leastSlips_47 (by decide) ?_
  refine G_istore_n (pc := 48) dX9_leastSlips_48 rfl (by decide) rfl ?_
  refine leastS_out hi h00 h0 (pcn (alB S0 (thN S0)) - 1) 1 _ _ _ (by omega) (by omega) (hC.fq g0.n) ⟨LB, g, hLa.k (fun j => upX_n (by omega)) (fun _ _ _ _ => rfl)⟩ (fun o' q1 q2 q3 => ?_) (fun S' f g2 => h S' (g0.n.tr (f.mono (fun a j q => Or.inr q) (fun a q => q))) ((f.1 0 5 (by omega)).trans upX_s) g2)
  have := pcG_pos 12 o' (by
    have : 2 ^ pcn (alB S0 (thN S0)) ≤ 2 ^ 12 := Nat.pow_le_pow_right (by decide) (pcG_le 12 _)
    omega) (by omega)
  have q3 : pcG 12 o' < 1 := q3
  omega
abbrev slX (a j : Nat) : Prop := (a = 0 ∧ (j = 5 ∨ j = 6)) ∨ (6 ≤ a ∧ a ≤ 149)
theorem CTh.sl {S0 S S' : ST} (h : CTh S0 S) (g : FrN slX mwA S S') : CTh S0 S' := h.fn g (by omega) (fun a j q z => by omega) (fun a q z => by omega)
theorem sl_fq {S S' : ST} (h : FrN fqX mwA S S') : FrN slX mwA S S' := h.mono (fun a j q => by rcases q with q | q; left; omega; exact Or.inr q) (fun a q => q)
set_option maxRecDepth 100000 in
set_option maxHeartbeats 4000000 in
theorem sX9_slips {S0 : ST} (hi : MI0 S0) (hC : CTh S0 S) (hF : CIf S0 S) (hs : CIs S0 S) (h : ∀ S', FrN slX mwA S S' → CIf S0 S' → CIs S0 S' → Q (some (aI (sp_slips S0))) (mk S')) : CT sc mX9_slips [aR 0] (mk S) Q := by
  refine S_of (by decide) rfl ?_
  show G sc mX9_slips 0 [some (aR 0), none] [] (mk S) Q
  have hth := thB hi.1
  by_cases h00 : shL S0 0 = []
  · have e0 : sp_slips S0 = -2 := by unfold sp_slips; rw [if_pos (al_0.mpr h00)]
    rw [e0] at h
    refine G_aload_n (pc := 0) dX9_slips_0 rfl rfl ?_
    refine S_callV (av := []) (pc := 1) (z := mX9_fitRefusal) (ci := 8) dX9_slips_1 zX9_fitRefusal lX9_slips_156 rfl (by first | rfl | assumption) rfl rfl (sX9_fitRefusal hi hC hF (fun _ => ⟨_, rfl, ?_⟩) (fun q => absurd h00 q))
    refine G_istore_n (pc := 4) dX9_slips_4 rfl (by decide) rfl ?_
    refine G_iload_n (pc := 5) dX9_slips_5 rfl rfl ?_
    refine G_bipush (pc := 6) (v := (-2)) dX9_slips_6 (by decide) ?_
    refine T_icmp_ne (pc := 8) (tgt := 14) dX9_slips_8 (by decide) (fun c8 => absurd c8 (by decide)) (fun c8 => ?_)
    refine G_bipush (pc := 11) (v := (-2)) dX9_slips_11 (by decide) ?_
    refine S_iret (pc := 13) dX9_slips_13 rfl ?_
    exact h S FrN.rf hF hs
  · have e0 : sp_slips S0 = nI (slV S0) := by unfold sp_slips; rw [if_neg (fun q => h00 (al_0.mp q))]
    have hft := ftB_0 hi h00
    by_cases hn : neA S0 (shL S0 0) = []
    · rcases hs with hs | ⟨s1, s2, s3⟩
      · skip
        refine G_aload_n (pc := 0) dX9_slips_0 rfl rfl ?_
        refine S_callV (av := []) (pc := 1) (z := mX9_fitRefusal) (ci := 8) dX9_slips_1 zX9_fitRefusal lX9_slips_156 rfl (by first | rfl | assumption) rfl rfl (sX9_fitRefusal hi hC hF (fun q => absurd q h00) (fun _ S1 w1 w2 w3 w4 => ⟨_, rfl, ?_⟩))
        rw [if_pos hn]
        refine G_istore_n (pc := 4) dX9_slips_4 rfl (by decide) rfl ?_
        refine G_iload_n (pc := 5) dX9_slips_5 rfl rfl ?_
        refine G_bipush (pc := 6) (v := (-2)) dX9_slips_6 (by decide) ?_
        refine T_icmp_ne (pc := 8) (tgt := 14) dX9_slips_8 (by decide) (fun c8 => ?_) (fun c8 => absurd c8 (by decide))
        refine G_iload_n (pc := 14) dX9_slips_14 rfl rfl ?_
        refine T_if_ne (pc := 15) (tgt := 20) dX9_slips_15 (by decide) (fun c15 => ?_) (fun c15 => absurd c15 (by decide))
        refine G_aload_n (pc := 20) dX9_slips_20 rfl rfl ?_
        refine S_getI (pc := 21) dX9_slips_21 fX9_42 rfl (by first | rfl | assumption) rfl ?_
        rw [show S1.1 0 6 = -1 from (w1.1 0 6 (by omega)).trans hs]
        refine G_iconst (pc := 24) (v := (-1)) dX9_slips_24 (by decide) ?_
        refine T_icmp_ne (pc := 25) (tgt := 36) dX9_slips_25 (by decide) (fun c25 => absurd c25 (by decide)) (fun c25 => ?_)
        refine G_aload_n (pc := 28) dX9_slips_28 rfl rfl ?_
        refine G_aload_n (pc := 29) dX9_slips_29 rfl rfl ?_
        refine S_callV (av := []) (pc := 30) (z := mX9_leastSlips) (ci := 8) dX9_slips_30 zX9_leastSlips lX9_slips_185 rfl (by first | rfl | assumption) rfl rfl (sX9_leastSlips hi h00 (hft.mpr hn) (hC.fq w1) w2.1 (fun S2 x1 x2 x3 => ⟨_, rfl, ?_⟩))
        refine S_putI (pc := 33) dX9_slips_33 fX9_42 (by decide) rfl (by first | rfl | assumption) rfl ?_
        refine G_aload_n (pc := 36) dX9_slips_36 rfl rfl ?_
        refine S_getI (pc := 37) dX9_slips_37 fX9_42 rfl (by first | rfl | assumption) rfl ?_
        rw [upX_s, ← e0]
        refine S_iret (pc := 40) dX9_slips_40 rfl ?_
        have g1 : FrN slX mwA S2 (upX S2 0 6 (sp_slips S0)) := (Fr.upX (px := slX) (pi := mwA) (Or.inl ⟨rfl, Or.inr rfl⟩)).n
        obtain ⟨LB, g, hLa⟩ := x3
        exact h _ ((sl_fq w1).tr ((sl_fq x1).tr g1)) ⟨⟨LB, g, hLa.k (fun j => upX_n (by omega)) (fun _ _ _ _ => rfl)⟩, Or.inl ((upX_n (by omega)).trans x2)⟩ (Or.inr ⟨h00, hn, upX_s⟩)
      · have z : ¬ (sp_slips S0).toInt = (-1 : Int32).toInt := by
          have := slV_lt hth
          rw [e0, nIt (by omega)]
          show ¬ (slV S0 : Int) = -1
          omega
        refine G_aload_n (pc := 0) dX9_slips_0 rfl rfl ?_
        refine S_callV (av := []) (pc := 1) (z := mX9_fitRefusal) (ci := 8) dX9_slips_1 zX9_fitRefusal lX9_slips_156 rfl (by first | rfl | assumption) rfl rfl (sX9_fitRefusal hi hC hF (fun q => absurd q h00) (fun _ S1 w1 w2 w3 w4 => ⟨_, rfl, ?_⟩))
        rw [if_pos hn]
        refine G_istore_n (pc := 4) dX9_slips_4 rfl (by decide) rfl ?_
        refine G_iload_n (pc := 5) dX9_slips_5 rfl rfl ?_
        refine G_bipush (pc := 6) (v := (-2)) dX9_slips_6 (by decide) ?_
        refine T_icmp_ne (pc := 8) (tgt := 14) dX9_slips_8 (by decide) (fun c8 => ?_) (fun c8 => absurd c8 (by decide))
        refine G_iload_n (pc := 14) dX9_slips_14 rfl rfl ?_
        refine T_if_ne (pc := 15) (tgt := 20) dX9_slips_15 (by decide) (fun c15 => ?_) (fun c15 => absurd c15 (by decide))
        refine G_aload_n (pc := 20) dX9_slips_20 rfl rfl ?_
        refine S_getI (pc := 21) dX9_slips_21 fX9_42 rfl (by first | rfl | assumption) rfl ?_
        rw [show S1.1 0 6 = sp_slips S0 from (w1.1 0 6 (by omega)).trans s3]
        refine G_iconst (pc := 24) (v := (-1)) dX9_slips_24 (by decide) ?_
        refine T_icmp_ne (pc := 25) (tgt := 36) dX9_slips_25 (by decide) (fun c25 => ?_) (fun c25 => absurd c25 (by exact z))
        refine G_aload_n (pc := 36) dX9_slips_36 rfl rfl ?_
        refine S_getI (pc := 37) dX9_slips_37 fX9_42 rfl (by first | rfl | assumption) rfl ?_
        rw [show S1.1 0 6 = sp_slips S0 from (w1.1 0 6 (by omega)).trans s3]
        refine S_iret (pc := 40) dX9_slips_40 rfl ?_
        exact h S1 (sl_fq w1) w2 (Or.inr ⟨h00, hn, (w1.1 0 6 (by omega)).trans s3⟩)
    · have hz : slV S0 = 0 := by
        have hf : ftB S0 0 = true := by
          rcases e : ftB S0 0 with _ | _
          · exact absurd (hft.mp e) hn
          · rfl
        have := (slV_spec (S := S0)).2.2 0 (by simp) hf
        have h0 : pcn 0 = 0 := rfl
        unfold lxl at this
        rw [h0] at this
        omega
      rw [e0, hz] at h
      refine G_aload_n (pc := 0) dX9_slips_0 rfl rfl ?_
      refine S_callV (av := []) (pc := 1) (z := mX9_fitRefusal) (ci := 8) dX9_slips_1 zX9_fitRefusal lX9_slips_156 rfl (by first | rfl | assumption) rfl rfl (sX9_fitRefusal hi hC hF (fun q => absurd q h00) (fun _ S1 w1 w2 w3 w4 => ⟨_, rfl, ?_⟩))
      rw [if_neg hn]
      refine G_istore_n (pc := 4) dX9_slips_4 rfl (by decide) rfl ?_
      refine G_iload_n (pc := 5) dX9_slips_5 rfl rfl ?_
      refine G_bipush (pc := 6) (v := (-2)) dX9_slips_6 (by decide) ?_
      refine T_icmp_ne (pc := 8) (tgt := 14) dX9_slips_8 (by decide) (fun c8 => ?_) (fun c8 => absurd c8 (by decide))
      refine G_iload_n (pc := 14) dX9_slips_14 rfl rfl ?_
      refine T_if_ne (pc := 15) (tgt := 20) dX9_slips_15 (by decide) (fun c15 => absurd c15 (by decide)) (fun c15 => ?_)
      refine G_iconst (pc := 18) (v := nI 0) dX9_slips_18 (by decide) ?_
      refine S_iret (pc := 19) dX9_slips_19 rfl ?_
      refine h S1 (sl_fq w1) w2 ?_
      rcases hs with hs | hs
      · exact Or.inl ((w1.1 0 6 (by omega)).trans hs)
      · exact absurd hs.2.1 hn
end C23
