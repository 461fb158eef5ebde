/-! the model: sortEnds, differs, settle -/
/-- how many of the first q ends are as that of p -/
def alE (f : Nat → List Int32) (p : Nat) : Nat → Nat
  | 0 => 0
  | q + 1 => alE f p q + (if f p = f q then 1 else 0)
def unE (f : Nat → List Int32) : Nat → Nat
  | 0 => 0
  | p + 1 => unE f p + (if alE f p p = 0 then 1 else 0)
def grE (f : Nat → List Int32) (n : Nat) : Nat → Nat
  | 0 => 0
  | p + 1 => if grE f n p < alE f p n then alE f p n else grE f n p
theorem alE_le (f : Nat → List Int32) (p : Nat) : ∀ q, alE f p q ≤ q
  | 0 => Nat.le_refl _
  | q + 1 => by
    have := alE_le f p q
    unfold alE
    split <;> omega
theorem unE_le (f : Nat → List Int32) : ∀ p, unE f p ≤ p
  | 0 => Nat.le_refl _
  | p + 1 => by
    have := unE_le f p
    unfold unE
    split <;> omega
theorem grE_le (f : Nat → List Int32) (n : Nat) : ∀ p, grE f n p ≤ n
  | 0 => Nat.zero_le _
  | p + 1 => by
    have := grE_le f n p
    have := alE_le f p n
    unfold grE
    split <;> omega
section M32
variable {sc : SC} {S : ST} {Q : Option AV → HM → Prop}
set_option maxRecDepth 100000 in
set_option maxHeartbeats 4000000 in
theorem sortEnds_in {f : Nat → List Int32} {n p t u g : Nat} {mo : Bool} (hE : EdIs S f n) (hs : S.1 389 22 = nI n) (hp : p < n) (hn : n ≤ 64) (hl : ∀ x, x < n → (f x).length ≤ 36) :
    ∀ (d q : Nat) (o9 : Option AV), q + d = n → (∀ o9 : Option AV, G sc mX10_sortEnds 93 [some (aR 389), some (aI (nI t)), some (aI (bI mo)), some (aI (nI u)), some (aI (nI g)), some (aI (nI p)), some (aI (nI (alE f p p))), some (aI (nI (alE f p n))), some (aI (nI n)), o9] [] (mk S) Q) →
      G sc mX10_sortEnds 31 [some (aR 389), some (aI (nI t)), some (aI (bI mo)), some (aI (nI u)), some (aI (nI g)), some (aI (nI p)), some (aI (nI (alE f p (min q p)))), some (aI (nI (alE f p q))), some (aI (nI q)), o9] [] (mk S) Q := by
  intro d
  induction d with
  | zero =>
    intro q o9 hq h
    have e : q = n := by omega
    subst e
    rw [show min q p = p by omega]
    refine G_iload (pc := 31) dX10_sortEnds_31 rfl ?_
    refine G_aload_n (pc := 33) dX10_sortEnds_33 rfl rfl ?_
    refine S_getI (pc := 34) dX10_sortEnds_34 fX10_216 rfl (by first | rfl | assumption) rfl ?_
    rw [hs]
    refine N_icmp_ge (pc := 37) (tgt := 93) dX10_sortEnds_37 (by decide) (by omega) (fun c37 => ?_) (fun c37 => absurd c37 (by omega))
    exact h _
  | succ d ih =>
    intro q o9 hq h
    have a1 := alE_le f p q
    have a2 := alE_le f p (min q p)
    have e1 : alE f p (q + 1) = alE f p q + (if f p = f q then 1 else 0) := rfl
    have ih := fun o9 => ih (q + 1) o9 (by omega) h
    have K : ∀ (x y : Nat) (o9 : Option AV), x = alE f p (min (q + 1) p) → y = alE f p (q + 1) → G sc mX10_sortEnds 87 [some (aR 389), some (aI (nI t)), some (aI (bI mo)), some (aI (nI u)), some (aI (nI g)), some (aI (nI p)), some (aI (nI x)), some (aI (nI y)), some (aI (nI q)), o9] [] (mk S) Q := by
      intro x y o9 hx hy
      rw [hx, hy]
      refine N_iinc (pc := 87) dX10_sortEnds_87 rfl (by decide) rfl ?_
      refine G_goto (pc := 90) (tgt := 31) dX10_sortEnds_90 (by decide) ?_
      exact ih _
    refine G_iload (pc := 31) dX10_sortEnds_31 rfl ?_
    refine G_aload_n (pc := 33) dX10_sortEnds_33 rfl rfl ?_
    refine S_getI (pc := 34) dX10_sortEnds_34 fX10_216 rfl (by first | rfl | assumption) rfl ?_
    rw [hs]
    refine N_icmp_ge (pc := 37) (tgt := 93) dX10_sortEnds_37 (by decide) (by omega) (fun c37 => absurd c37 (by omega)) (fun c37 => ?_)
    refine G_aload_n (pc := 40) dX10_sortEnds_40 rfl rfl ?_
    refine G_iload (pc := 41) dX10_sortEnds_41 rfl ?_
    refine G_iload (pc := 43) dX10_sortEnds_43 rfl ?_
    refine S_callV (av := [_, _]) (pc := 45) (z := mX10_areAlike) (ci := 9) dX10_sortEnds_45 zX10_areAlike lX10_sortEnds_250 rfl (by first | rfl | assumption) rfl rfl (sX10_areAlike hE hp (by omega) hn hl ⟨_, rfl, ?_⟩)
    refine G_istore (pc := 48) dX10_sortEnds_48 (by decide) rfl ?_
    by_cases hb : f p = f q
    · rw [decide_eq_true hb]
      rw [if_pos hb] at e1
      refine G_iload (pc := 50) dX10_sortEnds_50 rfl ?_
      refine G_iload (pc := 52) dX10_sortEnds_52 rfl ?_
      refine B_if_eq (pc := 54) (tgt := 68) dX10_sortEnds_54 (by decide) (fun c54 => absurd c54 (by decide)) (fun c54 => ?_)
      refine G_iload (pc := 57) dX10_sortEnds_57 rfl ?_
      refine G_iload (pc := 59) dX10_sortEnds_59 rfl ?_
      refine N_icmp_ge (pc := 61) (tgt := 68) dX10_sortEnds_61 (by decide) (by omega) (fun c61 => ?_) (fun c61 => ?_)
      · skip
        have e2 : alE f p (min q p) = alE f p (min (q + 1) p) := by rw [show min q p = p by omega, show min (q + 1) p = p by omega]
        refine G_iconst (pc := 68) (v := nI 0) dX10_sortEnds_68 (by decide) ?_
        refine N_iadd (pc := 69) dX10_sortEnds_69 ?_
        refine G_istore (pc := 70) dX10_sortEnds_70 (by decide) rfl ?_
        refine G_iload (pc := 72) dX10_sortEnds_72 rfl ?_
        refine G_iload (pc := 74) dX10_sortEnds_74 rfl ?_
        refine B_if_eq (pc := 76) (tgt := 83) dX10_sortEnds_76 (by decide) (fun c76 => absurd c76 (by decide)) (fun c76 => ?_)
        refine G_iconst (pc := 79) (v := nI 1) dX10_sortEnds_79 (by decide) ?_
        refine G_goto (pc := 80) (tgt := 84) dX10_sortEnds_80 (by decide) ?_
        refine N_iadd (pc := 84) dX10_sortEnds_84 ?_
        refine G_istore (pc := 85) dX10_sortEnds_85 (by decide) rfl ?_
        exact K _ _ _ e2 e1.symm
      · skip
        have e2 : alE f p (min q p) + 1 = alE f p (min (q + 1) p) := by rw [show min q p = q by omega, show min (q + 1) p = q + 1 by omega, e1]
        refine G_iconst (pc := 64) (v := nI 1) dX10_sortEnds_64 (by decide) ?_
        refine G_goto (pc := 65) (tgt := 69) dX10_sortEnds_65 (by decide) ?_
        refine N_iadd (pc := 69) dX10_sortEnds_69 ?_
        refine G_istore (pc := 70) dX10_sortEnds_70 (by decide) rfl ?_
        refine G_iload (pc := 72) dX10_sortEnds_72 rfl ?_
        refine G_iload (pc := 74) dX10_sortEnds_74 rfl ?_
        refine B_if_eq (pc := 76) (tgt := 83) dX10_sortEnds_76 (by decide) (fun c76 => absurd c76 (by decide)) (fun c76 => ?_)
        refine G_iconst (pc := 79) (v := nI 1) dX10_sortEnds_79 (by decide) ?_
        refine G_goto (pc := 80) (tgt := 84) dX10_sortEnds_80 (by decide) ?_
        refine N_iadd (pc := 84) dX10_sortEnds_84 ?_
        refine G_istore (pc := 85) dX10_sortEnds_85 (by decide) rfl ?_
        exact K _ _ _ e2 e1.symm
    · rw [decide_eq_false hb]
      rw [if_neg hb] at e1
      have e2 : alE f p (min q p) + 0 = alE f p (min (q + 1) p) := by
        by_cases hqp : q < p
        · rw [show min q p = q by omega, show min (q + 1) p = q + 1 by omega, e1]
        · rw [show min q p = p by omega, show min (q + 1) p = p by omega]; rfl
      refine G_iload (pc := 50) dX10_sortEnds_50 rfl ?_
      refine G_iload (pc := 52) dX10_sortEnds_52 rfl ?_
      refine B_if_eq (pc := 54) (tgt := 68) dX10_sortEnds_54 (by decide) (fun c54 => ?_) (fun c54 => absurd c54 (by decide))
      refine G_iconst (pc := 68) (v := nI 0) dX10_sortEnds_68 (by decide) ?_
      refine N_iadd (pc := 69) dX10_sortEnds_69 ?_
      refine G_istore (pc := 70) dX10_sortEnds_70 (by decide) rfl ?_
      refine G_iload (pc := 72) dX10_sortEnds_72 rfl ?_
      refine G_iload (pc := 74) dX10_sortEnds_74 rfl ?_
      refine B_if_eq (pc := 76) (tgt := 83) dX10_sortEnds_76 (by decide) (fun c76 => ?_) (fun c76 => absurd c76 (by decide))
      refine G_iconst (pc := 83) (v := nI 0) dX10_sortEnds_83 (by decide) ?_
      refine N_iadd (pc := 84) dX10_sortEnds_84 ?_
      refine G_istore (pc := 85) dX10_sortEnds_85 (by decide) rfl ?_
      exact K _ _ _ e2 e1.symm
set_option maxRecDepth 100000 in
set_option maxHeartbeats 4000000 in
theorem sortEnds_lp {f : Nat → List Int32} {n t : Nat} {mo : Bool} (hE : EdIs S f n) (hs : S.1 389 22 = nI n) (hn : n ≤ 64) (hl : ∀ x, x < n → (f x).length ≤ 36) (h : Q (some (aI (nI (if mo then grE f n n else unE f n)))) (mk S)) :
    ∀ (d p : Nat) (o6 o7 o8 o9 : Option AV), p + d = n →
      G sc mX10_sortEnds 13 [some (aR 389), some (aI (nI t)), some (aI (bI mo)), some (aI (nI (unE f p))), some (aI (nI (grE f n p))), some (aI (nI p)), o6, o7, o8, o9] [] (mk S) Q := by
  intro d
  induction d with
  | zero =>
    intro p o6 o7 o8 o9 hp
    have e : p = n := by omega
    subst e
    cases mo with
    | true =>
      refine G_iload (pc := 13) dX10_sortEnds_13 rfl ?_
      refine G_aload_n (pc := 15) dX10_sortEnds_15 rfl rfl ?_
      refine S_getI (pc := 16) dX10_sortEnds_16 fX10_216 rfl (by first | rfl | assumption) rfl ?_
      rw [hs]
      refine N_icmp_ge (pc := 19) (tgt := 128) dX10_sortEnds_19 (by decide) (by omega) (fun c19 => ?_) (fun c19 => absurd c19 (by omega))
      refine G_iload_n (pc := 128) dX10_sortEnds_128 rfl rfl ?_
      refine B_if_eq (pc := 129) (tgt := 137) dX10_sortEnds_129 (by decide) (fun c129 => absurd c129 (by decide)) (fun c129 => ?_)
      refine G_iload (pc := 132) dX10_sortEnds_132 rfl ?_
      refine G_goto (pc := 134) (tgt := 138) dX10_sortEnds_134 (by decide) ?_
      refine S_iret (pc := 138) dX10_sortEnds_138 rfl ?_
      exact h
    | false =>
      refine G_iload (pc := 13) dX10_sortEnds_13 rfl ?_
      refine G_aload_n (pc := 15) dX10_sortEnds_15 rfl rfl ?_
      refine S_getI (pc := 16) dX10_sortEnds_16 fX10_216 rfl (by first | rfl | assumption) rfl ?_
      rw [hs]
      refine N_icmp_ge (pc := 19) (tgt := 128) dX10_sortEnds_19 (by decide) (by omega) (fun c19 => ?_) (fun c19 => absurd c19 (by omega))
      refine G_iload_n (pc := 128) dX10_sortEnds_128 rfl rfl ?_
      refine B_if_eq (pc := 129) (tgt := 137) dX10_sortEnds_129 (by decide) (fun c129 => ?_) (fun c129 => absurd c129 (by decide))
      refine G_iload_n (pc := 137) dX10_sortEnds_137 rfl rfl ?_
      refine S_iret (pc := 138) dX10_sortEnds_138 rfl ?_
      exact h
  | succ d ih =>
    intro p o6 o7 o8 o9 hp
    have a1 := unE_le f p
    have a2 := grE_le f n p
    have a3 := alE_le f p p
    have a4 := alE_le f p n
    have e1 : unE f (p + 1) = unE f p + (if alE f p p = 0 then 1 else 0) := rfl
    have e2 : grE f n (p + 1) = if grE f n p < alE f p n then alE f p n else grE f n p := rfl
    refine G_iload (pc := 13) dX10_sortEnds_13 rfl ?_
    refine G_aload_n (pc := 15) dX10_sortEnds_15 rfl rfl ?_
    refine S_getI (pc := 16) dX10_sortEnds_16 fX10_216 rfl (by first | rfl | assumption) rfl ?_
    rw [hs]
    refine N_icmp_ge (pc := 19) (tgt := 128) dX10_sortEnds_19 (by decide) (by omega) (fun c19 => absurd c19 (by omega)) (fun c19 => ?_)
    refine G_iconst (pc := 22) (v := nI 0) dX10_sortEnds_22 (by decide) ?_
    refine G_istore (pc := 23) dX10_sortEnds_23 (by decide) rfl ?_
    refine G_iconst (pc := 25) (v := nI 0) dX10_sortEnds_25 (by decide) ?_
    refine G_istore (pc := 26) dX10_sortEnds_26 (by decide) rfl ?_
    refine G_iconst (pc := 28) (v := nI 0) dX10_sortEnds_28 (by decide) ?_
    refine G_istore (pc := 29) dX10_sortEnds_29 (by decide) rfl ?_
    refine sortEnds_in hE hs (by omega) hn hl n 0 _ (by omega) (fun o9 => ?_)
    refine G_iload_n (pc := 93) dX10_sortEnds_93 rfl rfl ?_
    refine G_iload (pc := 94) dX10_sortEnds_94 rfl ?_
    refine N_if_ne (pc := 96) (tgt := 103) dX10_sortEnds_96 (by decide) (by omega) (fun c96 => ?_) (fun c96 => ?_)
    · skip
      rw [if_neg c96] at e1
      refine G_iconst (pc := 103) (v := nI 0) dX10_sortEnds_103 (by decide) ?_
      refine N_iadd (pc := 104) dX10_sortEnds_104 ?_
      refine G_istore_n (pc := 105) dX10_sortEnds_105 rfl (by decide) rfl ?_
      refine G_iload (pc := 106) dX10_sortEnds_106 rfl ?_
      refine G_iload (pc := 108) dX10_sortEnds_108 rfl ?_
      refine N_icmp_le (pc := 110) (tgt := 118) dX10_sortEnds_110 (by decide) (by omega) (fun c110 => ?_) (fun c110 => ?_)
      · skip
        rw [if_neg (by omega)] at e2
        refine G_iload (pc := 118) dX10_sortEnds_118 rfl ?_
        refine G_istore (pc := 120) dX10_sortEnds_120 (by decide) rfl ?_
        refine N_iinc (pc := 122) dX10_sortEnds_122 rfl (by decide) rfl ?_
        refine G_goto (pc := 125) (tgt := 13) dX10_sortEnds_125 (by decide) ?_
        rw [← e1, ← e2]
        exact ih (p + 1) _ _ _ _ (by omega)
      · skip
        rw [if_pos (by omega)] at e2
        refine G_iload (pc := 113) dX10_sortEnds_113 rfl ?_
        refine G_goto (pc := 115) (tgt := 120) dX10_sortEnds_115 (by decide) ?_
        refine G_istore (pc := 120) dX10_sortEnds_120 (by decide) rfl ?_
        refine N_iinc (pc := 122) dX10_sortEnds_122 rfl (by decide) rfl ?_
        refine G_goto (pc := 125) (tgt := 13) dX10_sortEnds_125 (by decide) ?_
        rw [← e1, ← e2]
        exact ih (p + 1) _ _ _ _ (by omega)
    · skip
      rw [if_pos c96] at e1
      refine G_iconst (pc := 99) (v := nI 1) dX10_sortEnds_99 (by decide) ?_
      refine G_goto (pc := 100) (tgt := 104) dX10_sortEnds_100 (by decide) ?_
      refine N_iadd (pc := 104) dX10_sortEnds_104 ?_
      refine G_istore_n (pc := 105) dX10_sortEnds_105 rfl (by decide) rfl ?_
      refine G_iload (pc := 106) dX10_sortEnds_106 rfl ?_
      refine G_iload (pc := 108) dX10_sortEnds_108 rfl ?_
      refine N_icmp_le (pc := 110) (tgt := 118) dX10_sortEnds_110 (by decide) (by omega) (fun c110 => ?_) (fun c110 => ?_)
      · skip
        rw [if_neg (by omega)] at e2
        refine G_iload (pc := 118) dX10_sortEnds_118 rfl ?_
        refine G_istore (pc := 120) dX10_sortEnds_120 (by decide) rfl ?_
        refine N_iinc (pc := 122) dX10_sortEnds_122 rfl (by decide) rfl ?_
        refine G_goto (pc := 125) (tgt := 13) dX10_sortEnds_125 (by decide) ?_
        rw [← e1, ← e2]
        exact ih (p + 1) _ _ _ _ (by omega)
      · skip
        rw [if_pos (by omega)] at e2
        refine G_iload (pc := 113) dX10_sortEnds_113 rfl ?_
        refine G_goto (pc := 115) (tgt := 120) dX10_sortEnds_115 (by decide) ?_
        refine G_istore (pc := 120) dX10_sortEnds_120 (by decide) rfl ?_
        refine N_iinc (pc := 122) dX10_sortEnds_122 rfl (by decide) rfl ?_
        refine G_goto (pc := 125) (tgt := 13) dX10_sortEnds_125 (by decide) ?_
        rw [← e1, ← e2]
        exact ih (p + 1) _ _ _ _ (by omega)
set_option maxRecDepth 100000 in
set_option maxHeartbeats 4000000 in
theorem sX10_sortEnds {t : Nat} {N : List (List Nat)} {mo : Bool} (ht : t < 12) (hsz : S.2.1 391 t = nI (szN S t)) (hn : szN S t ≤ 16) (hN : NeIs S N) (hok : PsOk N) (h : ∀ S', Fr dX dA S S' → Q (some (aI (nI (if mo then grE (eF S t N) N.length N.length else unE (eF S t N) N.length)))) (mk S')) : CT sc mX10_sortEnds [aR 389, aI (nI t), aI (bI mo)] (mk S) Q := by
  refine S_of (by decide) rfl ?_
  show G sc mX10_sortEnds 0 [some (aR 389), some (aI (nI t)), some (aI (bI mo)), none, none, none, none, none, none, none] [] (mk S) Q
  refine G_aload_n (pc := 0) dX10_sortEnds_0 rfl rfl ?_
  refine G_iload_n (pc := 1) dX10_sortEnds_1 rfl rfl ?_
  refine S_callV (av := [_]) (pc := 2) (z := mX10_findEnds) (ci := 9) dX10_sortEnds_2 zX10_findEnds lX10_sortEnds_247 rfl (by first | rfl | assumption) rfl rfl (sX10_findEnds ht hsz hn hN hok (fun S1 g1 g2 => ⟨_, rfl, ?_⟩))
  refine G_iconst (pc := 5) (v := nI 0) dX10_sortEnds_5 (by decide) ?_
  refine G_istore_n (pc := 6) dX10_sortEnds_6 rfl (by decide) rfl ?_
  refine G_iconst (pc := 7) (v := nI 0) dX10_sortEnds_7 (by decide) ?_
  refine G_istore (pc := 8) dX10_sortEnds_8 (by decide) rfl ?_
  refine G_iconst (pc := 10) (v := nI 0) dX10_sortEnds_10 (by decide) ?_
  refine G_istore (pc := 11) dX10_sortEnds_11 (by decide) rfl ?_
  exact sortEnds_lp g2 (NeIs_d g1 hN).2.1 hN.1 (fun x hx => eF_le hn hok hx) (h S1 g1) N.length 0 _ _ _ _ (by omega)
theorem eF_w {S S' : ST} (h : SpW S S') (t : Nat) (N : List (List Nat)) : eF S' t N = eF S t N := by
  funext p
  unfold eF
  rw [lnB_w h, szN_w h]
theorem SpW_wf {S S' : ST} (h : Fr wX wA S S') : SpW S S' := SpW_f h (by omega)
def sp_differs (S : ST) (t : Int32) : Int32 := if isTh (thN S) t = true then lackS S (nI (unE (eF S t.toNatClampNeg (neA S (shL S 0))) (neA S (shL S 0)).length)) else -1
set_option maxRecDepth 100000 in
set_option maxHeartbeats 4000000 in
theorem sX10_differs {t : Int32} (hi : MI0 S) (h : ∀ S', Fr wX wA S S' → MIe S' → Q (some (aI (sp_differs S t))) (mk S')) : CT sc mX10_differs [aR 389, aI t] (mk S) Q := by
  refine S_of (by decide) rfl ?_
  show G sc mX10_differs 0 [some (aR 389), some (aI t), none] [] (mk S) Q
  have hn := hi.1.1
  refine G_aload_n (pc := 0) dX10_differs_0 rfl rfl ?_
  refine G_iload_n (pc := 1) dX10_differs_1 rfl rfl ?_
  refine S_callV (av := [_]) (pc := 2) (z := mX10_isThing) (ci := 9) dX10_differs_2 zX10_isThing lX10_differs_105 rfl (by first | rfl | assumption) rfl rfl (sX10_isThing hn.1 (by omega) ⟨_, rfl, ?_⟩)
  refine B_if_ne (pc := 5) (tgt := 10) dX10_differs_5 (by decide) (fun c5 => ?_) (fun c5 => ?_)
  · skip
    unfold sp_differs at h
    rw [if_pos c5] at h
    obtain ⟨k, hk, rfl⟩ := isTh_of c5
    rw [nI_clamp (by omega)] at h
    have hs := hi.1.2 k hk
    refine G_aload_n (pc := 10) dX10_differs_10 rfl rfl ?_
    refine S_callV (av := []) (pc := 11) (z := mX10_lacksFit) (ci := 9) dX10_differs_11 zX10_lacksFit lX10_differs_235 rfl (by first | rfl | assumption) rfl rfl (sX10_lacksFit hi (fun e => ⟨_, rfl, ?_⟩) (fun e1 e2 S1 g1 g2 => ⟨_, rfl, ?_⟩) (fun e1 e2 S1 g1 g2 g3 => ⟨_, rfl, ?_⟩))
    · rw [lackS_2 e] at h
      refine G_istore_n (pc := 14) dX10_differs_14 rfl (by decide) rfl ?_
      refine G_iload_n (pc := 15) dX10_differs_15 rfl rfl ?_
      refine T_if_ge (pc := 16) (tgt := 23) dX10_differs_16 (by decide) (fun c16 => absurd c16 (by decide)) (fun c16 => ?_)
      refine G_iload_n (pc := 19) dX10_differs_19 rfl rfl ?_
      refine G_goto (pc := 20) (tgt := 29) dX10_differs_20 (by decide) ?_
      refine S_iret (pc := 29) dX10_differs_29 rfl ?_
      exact h S Fr.rf hi.2.2.1
    · rw [lackS_4 e1 e2] at h
      refine G_istore_n (pc := 14) dX10_differs_14 rfl (by decide) rfl ?_
      refine G_iload_n (pc := 15) dX10_differs_15 rfl rfl ?_
      refine T_if_ge (pc := 16) (tgt := 23) dX10_differs_16 (by decide) (fun c16 => absurd c16 (by decide)) (fun c16 => ?_)
      refine G_iload_n (pc := 19) dX10_differs_19 rfl rfl ?_
      refine G_goto (pc := 20) (tgt := 29) dX10_differs_20 (by decide) ?_
      refine S_iret (pc := 29) dX10_differs_29 rfl ?_
      exact h S1 g1 g2
    rw [lackS_0 e1 e2] at h
    have hp := neA_ok e1 (TsOk_sh hi.1 hi.2.1 hi.2.2.2) (EnBy_sh hi.2.1)
    have w1 := SpW_wf g1
    have z1 : S1.2.1 391 k = nI (szN S1 k) := by rw [szN_w w1]; exact (wSz g1 k).trans hs.1
    skip
    refine G_istore_n (pc := 14) dX10_differs_14 rfl (by decide) rfl ?_
    refine G_iload_n (pc := 15) dX10_differs_15 rfl rfl ?_
    refine N_if_ge (pc := 16) (tgt := 23) dX10_differs_16 (by decide) (by omega) ?_
    refine G_aload_n (pc := 23) dX10_differs_23 rfl rfl ?_
    refine G_iload_n (pc := 24) dX10_differs_24 rfl rfl ?_
    refine G_iconst (pc := 25) (v := nI 0) dX10_differs_25 (by decide) ?_
    refine S_callV (av := [_, _]) (pc := 26) (z := mX10_sortEnds) (ci := 9) dX10_differs_26 zX10_sortEnds lX10_differs_253 rfl (by first | rfl | assumption) rfl rfl (sX10_sortEnds (mo := false) (by omega) z1 (by rw [szN_w w1]; exact hs.2.2.1) g3 hp (fun S2 k1 => ⟨_, rfl, ?_⟩))
    rw [eF_w w1]
    refine S_iret (pc := 29) dX10_differs_29 rfl ?_
    exact h S2 (g1.tr (wD k1)) (MIe_d k1 g2)
  · skip
    unfold sp_differs at h
    rw [if_neg (by simp [c5])] at h
    refine G_iconst (pc := 8) (v := (-1)) dX10_differs_8 (by decide) ?_
    refine S_iret (pc := 9) dX10_differs_9 rfl ?_
    exact h S Fr.rf hi.2.2.1
/-- the thing whose answer settles most -/
def seG (S : ST) (N : List (List Nat)) : Nat → Nat → Option Nat → Nat → Option Nat
  | 0, _, b, _ => b
  | d + 1, t, b, l => if stN S t = 1 then seG S N d (t + 1) b l else if b = none ∨ grE (eF S t N) N.length N.length < l then seG S N d (t + 1) (some t) (grE (eF S t N) N.length N.length) else seG S N d (t + 1) b l
def sp_settle (S : ST) : Int32 := lackS S (oI (seG S (neA S (shL S 0)) (thN S) 0 none 0))
set_option maxRecDepth 100000 in
set_option maxHeartbeats 4000000 in
theorem settle_lp {S0 : ST} {N : List (List Nat)} {v : Int32} (ha : MIa S0) (hb : MIb S0) (hok : PsOk N) :
    ∀ (d t : Nat) (b : Option Nat) (l : Nat) (S : ST) (o5 : Option AV), t + d = thN S0 → Fr wX wA S0 S → MIe S → NeIs S N → (∀ x, b = some x → x < 12) → l ≤ 64 → (∀ S', Fr wX wA S0 S' → MIe S' → Q (some (aI (oI (seG S0 N d t b l)))) (mk S')) →
      G sc mX10_settle 19 [some (aR 389), some (aI v), some (aI (oI b)), some (aI (nI l)), some (aI (nI t)), o5] [] (mk S) Q := by
  have h12 := ha.1.2
  intro d
  induction d with
  | zero =>
    intro t b l S o5 ht hF he hN hb2 hl h
    refine G_iload (pc := 19) dX10_settle_19 rfl ?_
    refine G_aload_n (pc := 21) dX10_settle_21 rfl rfl ?_
    refine S_getI (pc := 22) dX10_settle_22 fX10_80 rfl (by first | rfl | assumption) rfl ?_
    rw [(hF.1 389 0 (by omega)).trans ha.1.1]
    refine N_icmp_ge (pc := 25) (tgt := 70) dX10_settle_25 (by decide) (by omega) (fun c25 => ?_) (fun c25 => absurd c25 (by omega))
    refine G_iload_n (pc := 70) dX10_settle_70 rfl rfl ?_
    refine S_iret (pc := 71) dX10_settle_71 rfl ?_
    exact h S hF he
  | succ d ih =>
    intro t b l S o5 ht hF he hN hb2 hl h
    have hs := ha.2 t (by omega)
    have hst := (hb t (by omega)).1
    have w1 := SpW_wf hF
    have z1 : S.2.1 391 t = nI (szN S t) := by rw [szN_w w1]; exact (wSz hF t).trans hs.1
    have e0 : seG S0 N (d + 1) t b l = if stN S0 t = 1 then seG S0 N d (t + 1) b l else if b = none ∨ grE (eF S0 t N) N.length N.length < l then seG S0 N d (t + 1) (some t) (grE (eF S0 t N) N.length N.length) else seG S0 N d (t + 1) b l := rfl
    have hg := grE_le (eF S0 t N) N.length N.length
    have hNl := hN.1
    rw [e0] at h
    refine G_iload (pc := 19) dX10_settle_19 rfl ?_
    refine G_aload_n (pc := 21) dX10_settle_21 rfl rfl ?_
    refine S_getI (pc := 22) dX10_settle_22 fX10_80 rfl (by first | rfl | assumption) rfl ?_
    rw [(hF.1 389 0 (by omega)).trans ha.1.1]
    refine N_icmp_ge (pc := 25) (tgt := 70) dX10_settle_25 (by decide) (by omega) (fun c25 => absurd c25 (by omega)) (fun c25 => ?_)
    refine G_aload_n (pc := 28) dX10_settle_28 rfl rfl ?_
    refine S_getR (pc := 29) (b := 392) dX10_settle_29 fX10_16 rfl rfl (by first | rfl | assumption) rfl rfl ?_
    refine G_iload (pc := 32) dX10_settle_32 rfl ?_
    refine N_iald (pc := 34) dX10_settle_34 (by first | rfl | assumption) (by first | rfl | assumption) (by omega) ?_
    rw [(hF.2.1 392 (by omega) t).trans hst.1]
    refine G_iconst (pc := 35) (v := nI 1) dX10_settle_35 (by decide) ?_
    refine N_icmp_eq (pc := 36) (tgt := 64) dX10_settle_36 (by decide) (by omega) (fun c36 => ?_) (fun c36 => ?_)
    · skip
      rw [if_pos c36] at h
      refine N_iinc (pc := 64) dX10_settle_64 rfl (by decide) rfl ?_
      refine G_goto (pc := 67) (tgt := 19) dX10_settle_67 (by decide) ?_
      exact ih (t + 1) b l S _ (by omega) hF he hN hb2 hl h
    · skip
      rw [if_neg c36] at h
      refine G_aload_n (pc := 39) dX10_settle_39 rfl rfl ?_
      refine G_iload (pc := 40) dX10_settle_40 rfl ?_
      refine G_iconst (pc := 42) (v := nI 1) dX10_settle_42 (by decide) ?_
      refine S_callV (av := [_, _]) (pc := 43) (z := mX10_sortEnds) (ci := 9) dX10_settle_43 zX10_sortEnds lX10_settle_253 rfl (by first | rfl | assumption) rfl rfl (sX10_sortEnds (mo := true) (by omega) z1 (by rw [szN_w w1]; exact hs.2.2.1) hN hok (fun S2 k1 => ⟨_, rfl, ?_⟩))
      rw [eF_w w1, show (if true = true then grE (eF S0 t N) N.length N.length else unE (eF S0 t N) N.length) = grE (eF S0 t N) N.length N.length from rfl]
      generalize grE (eF S0 t N) N.length N.length = m at h hg
      refine G_istore (pc := 46) dX10_settle_46 (by decide) rfl ?_
      rcases b with _ | b
      · rw [if_pos (Or.inl rfl)] at h
        refine G_iload_n (pc := 48) dX10_settle_48 rfl rfl ?_
        refine T_if_lt (pc := 49) (tgt := 58) dX10_settle_49 (by decide) (fun c49 => ?_) (fun c49 => absurd c49 (by decide))
        refine G_iload (pc := 58) dX10_settle_58 rfl ?_
        refine G_istore_n (pc := 60) dX10_settle_60 rfl (by decide) rfl ?_
        refine G_iload (pc := 61) dX10_settle_61 rfl ?_
        refine G_istore_n (pc := 63) dX10_settle_63 rfl (by decide) rfl ?_
        refine N_iinc (pc := 64) dX10_settle_64 rfl (by decide) rfl ?_
        refine G_goto (pc := 67) (tgt := 19) dX10_settle_67 (by decide) ?_
        exact ih (t + 1) (some t) m S2 _ (by omega) (hF.tr (wD k1)) (MIe_d k1 he) (NeIs_d k1 hN) (fun x hx => by cases hx; omega) (by omega) h
      · have hb3 := hb2 b rfl
        show G sc mX10_settle 48 [some (aR 389), some (aI v), some (aI (nI b)), some (aI (nI l)), some (aI (nI t)), some (aI (nI m))] [] (mk S2) Q
        refine G_iload_n (pc := 48) dX10_settle_48 rfl rfl ?_
        refine N_if_lt (pc := 49) (tgt := 58) dX10_settle_49 (by decide) (by omega) ?_
        refine G_iload (pc := 52) dX10_settle_52 rfl ?_
        refine G_iload_n (pc := 54) dX10_settle_54 rfl rfl ?_
        refine N_icmp_ge (pc := 55) (tgt := 64) dX10_settle_55 (by decide) (by omega) (fun c55 => ?_) (fun c55 => ?_)
        · skip
          rw [if_neg (by intro q; rcases q with q | q; cases q; omega)] at h
          refine N_iinc (pc := 64) dX10_settle_64 rfl (by decide) rfl ?_
          refine G_goto (pc := 67) (tgt := 19) dX10_settle_67 (by decide) ?_
          first
          | exact ih (t + 1) (some b) l S2 _ (by omega) (hF.tr (wD k1)) (MIe_d k1 he) (NeIs_d k1 hN) hb2 hl h
          | exact ih (t + 1) (some t) m S2 _ (by omega) (hF.tr (wD k1)) (MIe_d k1 he) (NeIs_d k1 hN) (fun x hx => by cases hx; omega) (by omega) h
        · skip
          rw [if_pos (Or.inr (by omega))] at h
          refine G_iload (pc := 58) dX10_settle_58 rfl ?_
          refine G_istore_n (pc := 60) dX10_settle_60 rfl (by decide) rfl ?_
          refine G_iload (pc := 61) dX10_settle_61 rfl ?_
          refine G_istore_n (pc := 63) dX10_settle_63 rfl (by decide) rfl ?_
          refine N_iinc (pc := 64) dX10_settle_64 rfl (by decide) rfl ?_
          refine G_goto (pc := 67) (tgt := 19) dX10_settle_67 (by decide) ?_
          first
          | exact ih (t + 1) (some b) l S2 _ (by omega) (hF.tr (wD k1)) (MIe_d k1 he) (NeIs_d k1 hN) hb2 hl h
          | exact ih (t + 1) (some t) m S2 _ (by omega) (hF.tr (wD k1)) (MIe_d k1 he) (NeIs_d k1 hN) (fun x hx => by cases hx; omega) (by omega) h
set_option maxRecDepth 100000 in
set_option maxHeartbeats 4000000 in
theorem sX10_settle (hi : MI0 S) (h : ∀ S', Fr wX wA S S' → MIe S' → Q (some (aI (sp_settle S))) (mk S')) : CT sc mX10_settle [aR 389] (mk S) Q := by
  refine S_of (by decide) rfl ?_
  show G sc mX10_settle 0 [some (aR 389), none, none, none, none, none] [] (mk S) Q
  unfold sp_settle at h
  refine G_aload_n (pc := 0) dX10_settle_0 rfl rfl ?_
  refine S_callV (av := []) (pc := 1) (z := mX10_lacksFit) (ci := 9) dX10_settle_1 zX10_lacksFit lX10_settle_235 rfl (by first | rfl | assumption) rfl rfl (sX10_lacksFit hi (fun e => ⟨_, rfl, ?_⟩) (fun e1 e2 S1 g1 g2 => ⟨_, rfl, ?_⟩) (fun e1 e2 S1 g1 g2 g3 => ⟨_, rfl, ?_⟩))
  · rw [lackS_2 e] at h
    refine G_istore_n (pc := 4) dX10_settle_4 rfl (by decide) rfl ?_
    refine G_iload_n (pc := 5) dX10_settle_5 rfl rfl ?_
    refine T_if_ge (pc := 6) (tgt := 11) dX10_settle_6 (by decide) (fun c6 => absurd c6 (by decide)) (fun c6 => ?_)
    refine G_iload_n (pc := 9) dX10_settle_9 rfl rfl ?_
    refine S_iret (pc := 10) dX10_settle_10 rfl ?_
    exact h S Fr.rf hi.2.2.1
  · rw [lackS_4 e1 e2] at h
    refine G_istore_n (pc := 4) dX10_settle_4 rfl (by decide) rfl ?_
    refine G_iload_n (pc := 5) dX10_settle_5 rfl rfl ?_
    refine T_if_ge (pc := 6) (tgt := 11) dX10_settle_6 (by decide) (fun c6 => absurd c6 (by decide)) (fun c6 => ?_)
    refine G_iload_n (pc := 9) dX10_settle_9 rfl rfl ?_
    refine S_iret (pc := 10) dX10_settle_10 rfl ?_
    exact h S1 g1 g2
  rw [lackS_0 e1 e2] at h
  have hp := neA_ok e1 (TsOk_sh hi.1 hi.2.1 hi.2.2.2) (EnBy_sh hi.2.1)
  skip
  refine G_istore_n (pc := 4) dX10_settle_4 rfl (by decide) rfl ?_
  refine G_iload_n (pc := 5) dX10_settle_5 rfl rfl ?_
  refine N_if_ge (pc := 6) (tgt := 11) dX10_settle_6 (by decide) (by omega) ?_
  refine G_bipush (pc := 11) (v := (-4)) dX10_settle_11 (by decide) ?_
  refine G_istore_n (pc := 13) dX10_settle_13 rfl (by decide) rfl ?_
  refine G_iconst (pc := 14) (v := nI 0) dX10_settle_14 (by decide) ?_
  refine G_istore_n (pc := 15) dX10_settle_15 rfl (by decide) rfl ?_
  refine G_iconst (pc := 16) (v := nI 0) dX10_settle_16 (by decide) ?_
  refine G_istore (pc := 17) dX10_settle_17 (by decide) rfl ?_
  exact settle_lp hi.1 hi.2.1 hp (thN S) 0 none 0 S1 _ (by omega) g1 g2 g3 (fun x hx => by cases hx) (by omega) h
end M32
