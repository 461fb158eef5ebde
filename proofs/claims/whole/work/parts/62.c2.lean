/-! the class: things: places, cuts -/
/-- what a thing's cells are -/
def ThK (a : Nat) : Prop := kd a = (7, 0) ∧ kd (a + 1) = (3, 0) ∧ kd (a + 1 + 1) = (11, 16) ∧ kd (a + 3) = (10, 40) ∧ kd (a + 4) = (3, 0) ∧ kd (a + 4 + 1) = (11, 35) ∧ kd (a + 6) = (11, 289)
/-- the line of the thing at a; its places; its end -/
def LnIs (S : ST) (a : Nat) (b : Nat → Int32) (n : Nat) : Prop := S.1 (a + 1) 1 = nI n ∧ ∀ j, j < n → S.2.1 (a + 1 + 1) j = b j
def PlIs (S : ST) (a : Nat) (b : Nat → Int32) (n : Nat) : Prop := ∀ p, p < 40 → S.2.1 (a + 3) p = midI (pl b n p)
def EnIs (S : ST) (a : Nat) (e : Nat → Int32) (m : Nat) : Prop := S.1 (a + 4) 1 = nI m ∧ ∀ j, j < m → S.2.1 (a + 4 + 1) j = e j
abbrev noX (_ _ : Nat) : Prop := False
abbrev onA' (x : Nat) (a : Nat) : Prop := a = x
theorem LnIs.fr {S S' : ST} {a : Nat} {b : Nat → Int32} {n : Nat} {px : Nat → Nat → Prop} {pi : Nat → Prop} (h : LnIs S a b n) (g : Fr px pi S S') (h1 : ¬ px (a + 1) 1) (h2 : ¬ pi (a + 1 + 1)) : LnIs S' a b n := ⟨(g.1 _ _ h1).trans h.1, fun j hj => (g.2.1 _ h2 j).trans (h.2 j hj)⟩
theorem PlIs.fr {S S' : ST} {a : Nat} {b : Nat → Int32} {n : Nat} {px : Nat → Nat → Prop} {pi : Nat → Prop} (h : PlIs S a b n) (g : Fr px pi S S') (h2 : ¬ pi (a + 3)) : PlIs S' a b n := fun p hp => (g.2.1 _ h2 p).trans (h p hp)
theorem EnIs.fr {S S' : ST} {a : Nat} {b : Nat → Int32} {n : Nat} {px : Nat → Nat → Prop} {pi : Nat → Prop} (h : EnIs S a b n) (g : Fr px pi S S') (h1 : ¬ px (a + 4) 1) (h2 : ¬ pi (a + 4 + 1)) : EnIs S' a b n := ⟨(g.1 _ _ h1).trans h.1, fun j hj => (g.2.1 _ h2 j).trans (h.2 j hj)⟩
section C2
variable {sc : SC} {S : ST} {Q : Option AV → HM → Prop}
set_option maxRecDepth 100000 in
set_option maxHeartbeats 4000000 in
theorem sX8_setRun {a p f t : Nat} (ha : ThK a) (hp : p + 3 < 40) (h : Q none (mk (upI (upI S (a + 3) p (nI f)) (a + 3) (p + 3) (nI t)))) : CT sc mX8_setRun [aR a, aI (nI p), aI (nI f), aI (nI t)] (mk S) Q := by
  refine S_of (by decide) rfl ?_
  show G sc mX8_setRun 0 [some (aR a), some (aI (nI p)), some (aI (nI f)), some (aI (nI t))] [] (mk S) Q
  obtain ⟨k0, k1, k2, k3, k4, k5, k6⟩ := ha
  refine G_aload_n (pc := 0) dX8_setRun_0 rfl rfl ?_
  refine S_getR (pc := 1) (b := a + 3) dX8_setRun_1 fX8_20 rfl rfl (by first | rfl | assumption) rfl rfl ?_
  refine G_iload_n (pc := 4) dX8_setRun_4 rfl rfl ?_
  refine G_iload_n (pc := 5) dX8_setRun_5 rfl rfl ?_
  refine N_iast (pc := 6) dX8_setRun_6 (by first | rfl | assumption) (by first | rfl | assumption) (by omega) ?_
  refine G_aload_n (pc := 7) dX8_setRun_7 rfl rfl ?_
  refine S_getR (pc := 8) (b := a + 3) dX8_setRun_8 fX8_20 rfl rfl (by first | rfl | assumption) rfl rfl ?_
  refine G_iload_n (pc := 11) dX8_setRun_11 rfl rfl ?_
  refine G_iconst (pc := 12) (v := nI 3) dX8_setRun_12 (by decide) ?_
  refine N_iadd (pc := 13) dX8_setRun_13 ?_
  refine G_iload_n (pc := 14) dX8_setRun_14 rfl rfl ?_
  refine N_iast (pc := 15) dX8_setRun_15 (by first | rfl | assumption) (by first | rfl | assumption) (by omega) ?_
  refine S_vret (pc := 16) dX8_setRun_16 rfl ?_
  exact h
set_option maxRecDepth 100000 in
set_option maxHeartbeats 4000000 in
theorem findRuns_in {a k n B R V : Nat} {b : Nat → Int32} (ha : ThK a) (hl : LnIs S a b n) (hn : n ≤ 16) (hk : k < 3) :
    ∀ (f i : Nat), n - i ≤ f → i ≤ n → G sc mX8_findRuns 107 [some (aR a), some (aI (nI k)), some (aI (nI B)), some (aI (nI R)), some (aI (nI (rend b n k f i))), some (aI (nI V))] [] (mk S) Q →
      G sc mX8_findRuns 67 [some (aR a), some (aI (nI k)), some (aI (nI B)), some (aI (nI R)), some (aI (nI i)), some (aI (nI V))] [] (mk S) Q := by
  obtain ⟨k0, k1, k2, k3, k4, k5, k6⟩ := ha
  intro f
  induction f with
  | zero =>
    intro i h1 h2 h
    have e : i = n := by omega
    refine G_iload_n (pc := 67) dX8_findRuns_67 rfl rfl ?_
    refine G_iconst (pc := 68) (v := nI 3) dX8_findRuns_68 (by decide) ?_
    refine N_icmp_eq (pc := 69) (tgt := 107) dX8_findRuns_69 (by decide) (by omega) (fun c69 => absurd c69 (by omega)) (fun c69 => ?_)
    refine G_iload (pc := 72) dX8_findRuns_72 rfl ?_
    refine G_aload_n (pc := 74) dX8_findRuns_74 rfl rfl ?_
    refine S_getR (pc := 75) (b := a + 1) dX8_findRuns_75 fX8_14 rfl rfl (by first | rfl | assumption) rfl rfl ?_
    refine S_getI (pc := 78) dX8_findRuns_78 fX8_35 rfl (by first | rfl | assumption) rfl ?_
    rw [hl.1]
    refine N_icmp_ge (pc := 81) (tgt := 107) dX8_findRuns_81 (by decide) (by omega) (fun c81 => ?_) (fun c81 => absurd c81 (by omega))
    exact h
  | succ f ih =>
    intro i h1 h2 h
    refine G_iload_n (pc := 67) dX8_findRuns_67 rfl rfl ?_
    refine G_iconst (pc := 68) (v := nI 3) dX8_findRuns_68 (by decide) ?_
    refine N_icmp_eq (pc := 69) (tgt := 107) dX8_findRuns_69 (by decide) (by omega) (fun c69 => absurd c69 (by omega)) (fun c69 => ?_)
    refine G_iload (pc := 72) dX8_findRuns_72 rfl ?_
    refine G_aload_n (pc := 74) dX8_findRuns_74 rfl rfl ?_
    refine S_getR (pc := 75) (b := a + 1) dX8_findRuns_75 fX8_14 rfl rfl (by first | rfl | assumption) rfl rfl ?_
    refine S_getI (pc := 78) dX8_findRuns_78 fX8_35 rfl (by first | rfl | assumption) rfl ?_
    rw [hl.1]
    refine N_icmp_ge (pc := 81) (tgt := 107) dX8_findRuns_81 (by decide) (by omega) (fun c81 => ?_) (fun c81 => ?_)
    · skip
      rw [show rend b n k (f + 1) i = i from by unfold rend; rw [if_neg (by omega)]] at h
      exact h
    · skip
      have c81 : i < n := by omega
      refine G_iload_n (pc := 84) dX8_findRuns_84 rfl rfl ?_
      refine G_aload_n (pc := 85) dX8_findRuns_85 rfl rfl ?_
      refine S_getR (pc := 86) (b := a + 1) dX8_findRuns_86 fX8_14 rfl rfl (by first | rfl | assumption) rfl rfl ?_
      refine S_getR (pc := 89) (b := a + 1 + 1) dX8_findRuns_89 fX8_44 rfl rfl (by first | rfl | assumption) rfl rfl ?_
      refine G_iload (pc := 92) dX8_findRuns_92 rfl ?_
      refine N_bald (pc := 94) dX8_findRuns_94 (by first | rfl | assumption) (by first | rfl | assumption) (by omega) ?_
      rw [hl.2 i c81]
      refine S_callS (av := [_, _]) (pc := 95) (z := mX1_isOfRun) dX8_findRuns_95 zX1_isOfRun lX8_findRuns_47 rfl (sX1_isOfRun (by omega) ⟨_, rfl, ?_⟩)
      refine B_if_eq (pc := 98) (tgt := 107) dX8_findRuns_98 (by decide) (fun c98 => ?_) (fun c98 => ?_)
      · skip
        rw [show rend b n k (f + 1) i = i from by unfold rend; rw [if_neg (by simp [c98])]] at h
        exact h
      · skip
        rw [show rend b n k (f + 1) i = rend b n k f (i + 1) from by conv => lhs; unfold rend; rw [if_pos ⟨c81, c98⟩]] at h
        refine N_iinc (pc := 101) dX8_findRuns_101 rfl (by decide) rfl ?_
        refine G_goto (pc := 104) (tgt := 67) dX8_findRuns_104 (by decide) ?_
        exact ih (i + 1) (by omega) (by omega) h
/-- the six places of a kind -/
def RnIs (S : ST) (a B : Nat) (g : Nat → Nat → Option Nat) : Prop := ∀ w s, w < 3 → s < 2 → S.2.1 (a + 3) (B + 3 * s + w) = midI (g w s)
theorem RnIs.set {S : ST} {a B r f t : Nat} {g : Nat → Nat → Option Nat} (h : RnIs S a B g) (hr : r < 3) : RnIs (upI (upI S (a + 3) (B + r) (nI f)) (a + 3) (B + r + 3) (nI t)) a B (fun w s => if w = r then some (if s = 0 then f else t) else g w s) := by
  intro w s hw hs
  by_cases e : w = r
  · subst e
    rcases (show s = 0 ∨ s = 1 by omega) with rfl | rfl
    · rw [upI_n (by omega), show B + 3 * 0 + w = B + w by omega, upI_s]
      simp [midI]
    · rw [show B + 3 * 1 + w = B + w + 3 by omega, upI_s]
      simp [midI]
  · rw [upI_n (by omega), upI_n (by omega), h w s hw hs]
    simp [e]
theorem RnIs.cg {S : ST} {a B : Nat} {g g' : Nat → Nat → Option Nat} (h : RnIs S a B g) (e : ∀ w s, w < 3 → s < 2 → g w s = g' w s) : RnIs S a B g' := fun w s hw hs => by rw [h w s hw hs, e w s hw hs]
set_option maxRecDepth 100000 in
set_option maxHeartbeats 4000000 in
theorem findRuns_lp {a k n B : Nat} {b : Nat → Int32} (ha : ThK a) (hn : n ≤ 16) (hk : k ≤ 3) (hB : B + 6 ≤ 40) :
    ∀ (f i r : Nat) (g : Nat → Nat → Option Nat) (S : ST) (o5 : Option AV), n - i ≤ f → i ≤ n → r ≤ i → LnIs S a b n → RnIs S a B g →
      (∀ S', Fr noX (onA' (a + 3)) S S' → (∀ p, p < B ∨ B + 6 ≤ p → S'.2.1 (a + 3) p = S.2.1 (a + 3) p) → RnIs S' a B (fun w s => fnd w s (runsG b n k f i) r (g w s)) → Q none (mk S')) →
      G sc mX8_findRuns 28 [some (aR a), some (aI (nI k)), some (aI (nI B)), some (aI (nI r)), some (aI (nI i)), o5] [] (mk S) Q := by
  have ha0 := ha
  obtain ⟨k0, k1, k2, k3, k4, k5, k6⟩ := ha
  intro f
  induction f with
  | zero =>
    intro i r g S o5 h1 h2 hr hl hg h
    have e : i = n := by omega
    refine G_iload (pc := 28) dX8_findRuns_28 rfl ?_
    refine G_aload_n (pc := 30) dX8_findRuns_30 rfl rfl ?_
    refine S_getR (pc := 31) (b := a + 1) dX8_findRuns_31 fX8_14 rfl rfl (by first | rfl | assumption) rfl rfl ?_
    refine S_getI (pc := 34) dX8_findRuns_34 fX8_35 rfl (by first | rfl | assumption) rfl ?_
    rw [hl.1]
    refine N_icmp_ge (pc := 37) (tgt := 140) dX8_findRuns_37 (by decide) (by omega) (fun c37 => ?_) (fun c37 => absurd c37 (by omega))
    refine S_vret (pc := 140) dX8_findRuns_140 rfl ?_
    exact h S Fr.rf (fun _ _ => rfl) hg
  | succ f ih =>
    intro i r g S o5 h1 h2 hr hl hg h
    refine G_iload (pc := 28) dX8_findRuns_28 rfl ?_
    refine G_aload_n (pc := 30) dX8_findRuns_30 rfl rfl ?_
    refine S_getR (pc := 31) (b := a + 1) dX8_findRuns_31 fX8_14 rfl rfl (by first | rfl | assumption) rfl rfl ?_
    refine S_getI (pc := 34) dX8_findRuns_34 fX8_35 rfl (by first | rfl | assumption) rfl ?_
    rw [hl.1]
    refine N_icmp_ge (pc := 37) (tgt := 140) dX8_findRuns_37 (by decide) (by omega) (fun c37 => ?_) (fun c37 => ?_)
    · skip
      rw [show runsG b n k (f + 1) i = [] from by unfold runsG; rw [if_neg (by omega)]] at h
      refine S_vret (pc := 140) dX8_findRuns_140 rfl ?_
      exact h S Fr.rf (fun _ _ => rfl) hg
    · skip
      have c37 : i < n := by omega
      refine G_iload (pc := 40) dX8_findRuns_40 rfl ?_
      refine G_istore (pc := 42) dX8_findRuns_42 (by decide) rfl ?_
      refine N_iinc (pc := 44) dX8_findRuns_44 rfl (by decide) rfl ?_
      refine G_iload_n (pc := 47) dX8_findRuns_47 rfl rfl ?_
      refine G_aload_n (pc := 48) dX8_findRuns_48 rfl rfl ?_
      refine S_getR (pc := 49) (b := a + 1) dX8_findRuns_49 fX8_14 rfl rfl (by first | rfl | assumption) rfl rfl ?_
      refine S_getR (pc := 52) (b := a + 1 + 1) dX8_findRuns_52 fX8_44 rfl rfl (by first | rfl | assumption) rfl rfl ?_
      refine G_iload (pc := 55) dX8_findRuns_55 rfl ?_
      refine N_bald (pc := 57) dX8_findRuns_57 (by first | rfl | assumption) (by first | rfl | assumption) (by omega) ?_
      rw [hl.2 i c37]
      refine S_callS (av := [_, _]) (pc := 58) (z := mX1_isOfRun) dX8_findRuns_58 zX1_isOfRun lX8_findRuns_47 rfl (sX1_isOfRun hk ⟨_, rfl, ?_⟩)
      refine B_if_ne (pc := 61) (tgt := 67) dX8_findRuns_61 (by decide) (fun c61 => ?_) (fun c61 => ?_)
      · skip
        have hb : isKd k (b i) = true := c61
        have e1 : runsG b n k (f + 1) i = (i, rnx b n k i) :: runsG b n k f (rnx b n k i) := by
          conv => lhs; unfold runsG
          rw [if_pos c37, if_pos hb]
        rw [e1] at h
        have g1 := rnx_gt b n k i
        have g2 := rnx_le b n k i c37
        have K : G sc mX8_findRuns 107 [some (aR a), some (aI (nI k)), some (aI (nI B)), some (aI (nI r)), some (aI (nI (rnx b n k i))), some (aI (nI i))] [] (mk S) Q := by
          generalize rnx b n k i = e at h g1 g2 ⊢
          have fin : ∀ S1, Fr noX (onA' (a + 3)) S S1 → (∀ p, p < B ∨ B + 6 ≤ p → S1.2.1 (a + 3) p = S.2.1 (a + 3) p) → RnIs S1 a B (fun w s => if w = 2 ∨ w = r then some (if s = 0 then i else e) else g w s) → G sc mX8_findRuns 28 [some (aR a), some (aI (nI k)), some (aI (nI B)), some (aI (nI (r + 1))), some (aI (nI e)), some (aI (nI i))] [] (mk S1) Q := by
            intro S1 q1 q2 q3
            refine ih e (r + 1) _ S1 _ (by omega) (by omega) (by omega) (hl.fr q1 (by simp) (by show ¬ _ = _; omega)) q3 (fun S' w1 w2 w3 => h S' (q1.tr w1) (fun p hp => (w2 p hp).trans (q2 p hp)) w3)
          refine G_iload_n (pc := 107) dX8_findRuns_107 rfl rfl ?_
          refine G_iconst (pc := 108) (v := nI 2) dX8_findRuns_108 (by decide) ?_
          refine N_icmp_ge (pc := 109) (tgt := 123) dX8_findRuns_109 (by decide) (by omega) (fun c109 => ?_) (fun c109 => ?_)
          · skip
            refine G_aload_n (pc := 123) dX8_findRuns_123 rfl rfl ?_
            refine G_iload_n (pc := 124) dX8_findRuns_124 rfl rfl ?_
            refine G_iconst (pc := 125) (v := nI 2) dX8_findRuns_125 (by decide) ?_
            refine N_iadd (pc := 126) dX8_findRuns_126 ?_
            refine G_iload (pc := 127) dX8_findRuns_127 rfl ?_
            refine G_iload (pc := 129) dX8_findRuns_129 rfl ?_
            refine S_callV (av := [_, _, _]) (pc := 131) (z := mX8_setRun) (ci := 7) dX8_findRuns_131 zX8_setRun lX8_findRuns_51 rfl (by first | rfl | assumption) rfl rfl (sX8_setRun ha0 (by omega) ⟨_, rfl, ?_⟩)
            refine N_iinc (pc := 134) dX8_findRuns_134 rfl (by decide) rfl ?_
            refine G_goto (pc := 137) (tgt := 28) dX8_findRuns_137 (by decide) ?_
            first
              | exact fin _ (Fr.tr (Fr.upI rfl) (Fr.upI rfl)) (fun p hp => by rw [upI_n (by omega), upI_n (by omega)]) ((hg.set (r := 2) (by omega)).cg (fun w s hw hs => by by_cases q : w = 2 <;> simp [q] <;> omega))
              | exact fin _ (Fr.tr (Fr.tr (Fr.upI rfl) (Fr.upI rfl)) (Fr.tr (Fr.upI rfl) (Fr.upI rfl))) (fun p hp => by rw [upI_n (by omega), upI_n (by omega), upI_n (by omega), upI_n (by omega)]) (((hg.set (r := r) (by omega)).set (r := 2) (by omega)).cg (fun w s hw hs => by by_cases q : w = 2 <;> by_cases q' : w = r <;> simp [q, q']))
          · skip
            refine G_aload_n (pc := 112) dX8_findRuns_112 rfl rfl ?_
            refine G_iload_n (pc := 113) dX8_findRuns_113 rfl rfl ?_
            refine G_iload_n (pc := 114) dX8_findRuns_114 rfl rfl ?_
            refine N_iadd (pc := 115) dX8_findRuns_115 ?_
            refine G_iload (pc := 116) dX8_findRuns_116 rfl ?_
            refine G_iload (pc := 118) dX8_findRuns_118 rfl ?_
            refine S_callV (av := [_, _, _]) (pc := 120) (z := mX8_setRun) (ci := 7) dX8_findRuns_120 zX8_setRun lX8_findRuns_51 rfl (by first | rfl | assumption) rfl rfl (sX8_setRun ha0 (by omega) ⟨_, rfl, ?_⟩)
            refine G_aload_n (pc := 123) dX8_findRuns_123 rfl rfl ?_
            refine G_iload_n (pc := 124) dX8_findRuns_124 rfl rfl ?_
            refine G_iconst (pc := 125) (v := nI 2) dX8_findRuns_125 (by decide) ?_
            refine N_iadd (pc := 126) dX8_findRuns_126 ?_
            refine G_iload (pc := 127) dX8_findRuns_127 rfl ?_
            refine G_iload (pc := 129) dX8_findRuns_129 rfl ?_
            refine S_callV (av := [_, _, _]) (pc := 131) (z := mX8_setRun) (ci := 7) dX8_findRuns_131 zX8_setRun lX8_findRuns_51 rfl (by first | rfl | assumption) rfl rfl (sX8_setRun ha0 (by omega) ⟨_, rfl, ?_⟩)
            refine N_iinc (pc := 134) dX8_findRuns_134 rfl (by decide) rfl ?_
            refine G_goto (pc := 137) (tgt := 28) dX8_findRuns_137 (by decide) ?_
            first
              | exact fin _ (Fr.tr (Fr.upI rfl) (Fr.upI rfl)) (fun p hp => by rw [upI_n (by omega), upI_n (by omega)]) ((hg.set (r := 2) (by omega)).cg (fun w s hw hs => by by_cases q : w = 2 <;> simp [q] <;> omega))
              | exact fin _ (Fr.tr (Fr.tr (Fr.upI rfl) (Fr.upI rfl)) (Fr.tr (Fr.upI rfl) (Fr.upI rfl))) (fun p hp => by rw [upI_n (by omega), upI_n (by omega), upI_n (by omega), upI_n (by omega)]) (((hg.set (r := r) (by omega)).set (r := 2) (by omega)).cg (fun w s hw hs => by by_cases q : w = 2 <;> by_cases q' : w = r <;> simp [q, q']))
        by_cases hk3 : k = 3
        · subst hk3
          have e2 : rnx b n 3 i = i + 1 := rfl
          rw [e2] at K
          refine G_iload_n (pc := 67) dX8_findRuns_67 rfl rfl ?_
          refine G_iconst (pc := 68) (v := nI 3) dX8_findRuns_68 (by decide) ?_
          refine N_icmp_eq (pc := 69) (tgt := 107) dX8_findRuns_69 (by decide) (by omega) (fun c69 => ?_) (fun c69 => absurd c69 (by omega))
          exact K
        · have e2 : rnx b n k i = rend b n k n (i + 1) := by unfold rnx; rw [if_neg hk3]
          rw [e2] at K
          exact findRuns_in ha0 hl hn (by omega) n (i + 1) (by omega) (by omega) K
      · skip
        refine G_goto (pc := 64) (tgt := 28) dX8_findRuns_64 (by decide) ?_
        have hb : isKd k (b i) = false := c61
        have e1 : runsG b n k (f + 1) i = runsG b n k f (i + 1) := by
          conv => lhs; unfold runsG
          rw [if_pos c37, if_neg (by simp [hb])]
        rw [e1] at h
        exact ih (i + 1) r g S _ (by omega) (by omega) (by omega) hl hg h
set_option maxRecDepth 100000 in
set_option maxHeartbeats 4000000 in
theorem findRuns_z {a k B : Nat} (ha : ThK a) (hB : B + 6 ≤ 40) :
    ∀ (d i : Nat) (S : ST) (o4 o5 : Option AV), i + d = 6 → (∀ j, j < i → S.2.1 (a + 3) (B + j) = -1) →
      (∀ S', Fr noX (onA' (a + 3)) S S' → (∀ p, p < B ∨ B + 6 ≤ p → S'.2.1 (a + 3) p = S.2.1 (a + 3) p) → (∀ j, j < 6 → S'.2.1 (a + 3) (B + j) = -1) → G sc mX8_findRuns 23 [some (aR a), some (aI (nI k)), some (aI (nI B)), some (aI (nI 6)), o4, o5] [] (mk S') Q) →
      G sc mX8_findRuns 2 [some (aR a), some (aI (nI k)), some (aI (nI B)), some (aI (nI i)), o4, o5] [] (mk S) Q := by
  obtain ⟨k0, k1, k2, k3, k4, k5, k6⟩ := ha
  intro d
  induction d with
  | zero =>
    intro i S o4 o5 hi hz h
    have e : i = 6 := by omega
    subst e
    refine G_iload_n (pc := 2) dX8_findRuns_2 rfl rfl ?_
    refine G_bipush (pc := 3) (v := nI 6) dX8_findRuns_3 (by decide) ?_
    refine N_icmp_ge (pc := 5) (tgt := 23) dX8_findRuns_5 (by decide) (by omega) (fun c5 => ?_) (fun c5 => absurd c5 (by omega))
    exact h S Fr.rf (fun _ _ => rfl) hz
  | succ d ih =>
    intro i S o4 o5 hi hz h
    refine G_iload_n (pc := 2) dX8_findRuns_2 rfl rfl ?_
    refine G_bipush (pc := 3) (v := nI 6) dX8_findRuns_3 (by decide) ?_
    refine N_icmp_ge (pc := 5) (tgt := 23) dX8_findRuns_5 (by decide) (by omega) (fun c5 => absurd c5 (by omega)) (fun c5 => ?_)
    refine G_aload_n (pc := 8) dX8_findRuns_8 rfl rfl ?_
    refine S_getR (pc := 9) (b := a + 3) dX8_findRuns_9 fX8_20 rfl rfl (by first | rfl | assumption) rfl rfl ?_
    refine G_iload_n (pc := 12) dX8_findRuns_12 rfl rfl ?_
    refine G_iload_n (pc := 13) dX8_findRuns_13 rfl rfl ?_
    refine N_iadd (pc := 14) dX8_findRuns_14 ?_
    refine G_iconst (pc := 15) (v := (-1)) dX8_findRuns_15 (by decide) ?_
    refine N_iast (pc := 16) dX8_findRuns_16 (by first | rfl | assumption) (by first | rfl | assumption) (by omega) ?_
    refine N_iinc (pc := 17) dX8_findRuns_17 rfl (by decide) rfl ?_
    refine G_goto (pc := 20) (tgt := 2) dX8_findRuns_20 (by decide) ?_
    refine ih (i + 1) _ o4 o5 (by omega) (fun j hj => ?_) (fun S' w1 w2 w3 => h S' (Fr.tr (Fr.upI rfl) w1) (fun p hp => (w2 p hp).trans (upI_n (by omega))) w3)
    by_cases e : j = i
    · subst e
      exact upI_s
    · rw [upI_n (by omega)]
      exact hz j (by omega)
set_option maxRecDepth 100000 in
set_option maxHeartbeats 4000000 in
theorem sX8_findRuns {a k n : Nat} {b : Nat → Int32} (ha : ThK a) (hl : LnIs S a b n) (hn : n ≤ 16) (hk : k ≤ 3)
    (h : ∀ S', Fr noX (onA' (a + 3)) S S' → (∀ p, p < 16 + 6 * k ∨ 16 + 6 * k + 6 ≤ p → S'.2.1 (a + 3) p = S.2.1 (a + 3) p) → (∀ p, 16 + 6 * k ≤ p → p < 16 + 6 * k + 6 → S'.2.1 (a + 3) p = midI (pl b n p)) → Q none (mk S')) : CT sc mX8_findRuns [aR a, aI (nI k), aI (nI (16 + 6 * k))] (mk S) Q := by
  refine S_of (by decide) rfl ?_
  show G sc mX8_findRuns 0 [some (aR a), some (aI (nI k)), some (aI (nI (16 + 6 * k))), none, none, none] [] (mk S) Q
  refine G_iconst (pc := 0) (v := nI 0) dX8_findRuns_0 (by decide) ?_
  refine G_istore_n (pc := 1) dX8_findRuns_1 rfl (by decide) rfl ?_
  refine findRuns_z ha (by omega) 6 0 S _ _ (by omega) (fun j hj => by omega) (fun S1 w1 w2 w3 => ?_)
  refine G_iconst (pc := 23) (v := nI 0) dX8_findRuns_23 (by decide) ?_
  refine G_istore_n (pc := 24) dX8_findRuns_24 rfl (by decide) rfl ?_
  refine G_iconst (pc := 25) (v := nI 0) dX8_findRuns_25 (by decide) ?_
  refine G_istore (pc := 26) dX8_findRuns_26 (by decide) rfl ?_
  refine findRuns_lp ha hn hk (by omega) n 0 0 (fun _ _ => none) S1 _ (by omega) (by omega) (by omega) (hl.fr w1 (by simp) (by show ¬ _ = _; omega)) (fun w s hw hs => (by rw [show 16 + 6 * k + 3 * s + w = 16 + 6 * k + (3 * s + w) by omega]; exact w3 (3 * s + w) (by omega))) (fun S' v1 v2 v3 => h S' (w1.tr v1) (fun p hp => (v2 p hp).trans (w2 p hp)) (fun p g1 g2 => ?_))
  have h1 := v3 ((p - 16) % 3) ((p - 16) / 3 % 2) (by omega) (by omega)
  rw [show 16 + 6 * k + 3 * ((p - 16) / 3 % 2) + (p - 16) % 3 = p by omega] at h1
  rw [h1, pl_c (by omega), show (p - 16) / 6 = k by omega]
  rfl
set_option maxRecDepth 100000 in
set_option maxHeartbeats 4000000 in
theorem findPlaces_lp1 {a n : Nat} {b : Nat → Int32} (ha : ThK a) (hn : n ≤ 16) :
    ∀ (d i : Nat) (S : ST), i + d = 8 → (∀ j, j < i → S.2.1 (a + 3) j = midI (pl b n j) ∧ S.2.1 (a + 3) (8 + j) = midI (pl b n (8 + j))) →
      (∀ S', Fr noX (onA' (a + 3)) S S' → (∀ p, p < 16 → S'.2.1 (a + 3) p = midI (pl b n p)) → G sc mX8_findPlaces 59 [some (aR a), some (aI (nI n)), some (aI (nI 8))] [] (mk S') Q) →
      G sc mX8_findPlaces 10 [some (aR a), some (aI (nI n)), some (aI (nI i))] [] (mk S) Q := by
  obtain ⟨k0, k1, k2, k3, k4, k5, k6⟩ := ha
  intro d
  induction d with
  | zero =>
    intro i S hi hz h
    have e : i = 8 := by omega
    subst e
    refine G_iload_n (pc := 10) dX8_findPlaces_10 rfl rfl ?_
    refine G_bipush (pc := 11) (v := nI 8) dX8_findPlaces_11 (by decide) ?_
    refine N_icmp_ge (pc := 13) (tgt := 59) dX8_findPlaces_13 (by decide) (by omega) (fun c13 => ?_) (fun c13 => absurd c13 (by omega))
    refine h S Fr.rf (fun p hp => ?_)
    rcases Nat.lt_or_ge p 8 with q | q
    · exact (hz p q).1
    · have := (hz (p - 8) (by omega)).2
      rw [show 8 + (p - 8) = p by omega] at this
      exact this
  | succ d ih =>
    intro i S hi hz h
    have step : ∀ x y : Int32, x = midI (pl b n i) → y = midI (pl b n (8 + i)) → G sc mX8_findPlaces 10 [some (aR a), some (aI (nI n)), some (aI (nI (i + 1)))] [] (mk (upI (upI S (a + 3) i x) (a + 3) (8 + i) y)) Q := by
      intro x y hx hy
      refine ih (i + 1) _ (by omega) (fun j hj => ?_) (fun S' w1 w2 => h S' (Fr.tr (Fr.tr (Fr.upI rfl) (Fr.upI rfl)) w1) w2)
      by_cases e : j = i
      · subst e
        exact ⟨by rw [upI_n (by omega), upI_s, hx], by rw [upI_s, hy]⟩
      · rw [upI_n (by omega), upI_n (by omega), upI_n (by omega), upI_n (by omega)]
        exact hz j (by omega)
    have e1 : pl b n i = if i ≤ n then some i else none := pl_a (by omega)
    have e2 : pl b n (8 + i) = if i ≤ n then some (n - i) else none := by
      rw [pl_b (by omega), show 8 + i - 8 = i by omega]
    refine G_iload_n (pc := 10) dX8_findPlaces_10 rfl rfl ?_
    refine G_bipush (pc := 11) (v := nI 8) dX8_findPlaces_11 (by decide) ?_
    refine N_icmp_ge (pc := 13) (tgt := 59) dX8_findPlaces_13 (by decide) (by omega) (fun c13 => absurd c13 (by omega)) (fun c13 => ?_)
    refine G_aload_n (pc := 16) dX8_findPlaces_16 rfl rfl ?_
    refine S_getR (pc := 17) (b := a + 3) dX8_findPlaces_17 fX8_20 rfl rfl (by first | rfl | assumption) rfl rfl ?_
    refine G_iload_n (pc := 20) dX8_findPlaces_20 rfl rfl ?_
    refine G_iload_n (pc := 21) dX8_findPlaces_21 rfl rfl ?_
    refine G_iload_n (pc := 22) dX8_findPlaces_22 rfl rfl ?_
    refine N_icmp_gt (pc := 23) (tgt := 30) dX8_findPlaces_23 (by decide) (by omega) (fun c23 => ?_) (fun c23 => ?_)
    · skip
      rw [e1, e2, if_neg (by omega), if_neg (by omega)] at step
      refine G_iconst (pc := 30) (v := (-1)) dX8_findPlaces_30 (by decide) ?_
      refine N_iast (pc := 31) dX8_findPlaces_31 (by first | rfl | assumption) (by first | rfl | assumption) (by omega) ?_
      refine G_aload_n (pc := 32) dX8_findPlaces_32 rfl rfl ?_
      refine S_getR (pc := 33) (b := a + 3) dX8_findPlaces_33 fX8_20 rfl rfl (by first | rfl | assumption) rfl rfl ?_
      refine G_bipush (pc := 36) (v := nI 8) dX8_findPlaces_36 (by decide) ?_
      refine G_iload_n (pc := 38) dX8_findPlaces_38 rfl rfl ?_
      refine N_iadd (pc := 39) dX8_findPlaces_39 ?_
      refine G_iload_n (pc := 40) dX8_findPlaces_40 rfl rfl ?_
      refine G_iload_n (pc := 41) dX8_findPlaces_41 rfl rfl ?_
      refine N_icmp_gt (pc := 42) (tgt := 51) dX8_findPlaces_42 (by decide) (by omega) (fun c42 => ?_) (fun c42 => ?_)
      · skip
        refine G_iconst (pc := 51) (v := (-1)) dX8_findPlaces_51 (by decide) ?_
        refine N_iast (pc := 52) dX8_findPlaces_52 (by first | rfl | assumption) (by first | rfl | assumption) (by omega) ?_
        refine N_iinc (pc := 53) dX8_findPlaces_53 rfl (by decide) rfl ?_
        refine G_goto (pc := 56) (tgt := 10) dX8_findPlaces_56 (by decide) ?_
        first | exact step _ _ rfl rfl | omega
      · skip
        refine G_iload_n (pc := 45) dX8_findPlaces_45 rfl rfl ?_
        refine G_iload_n (pc := 46) dX8_findPlaces_46 rfl rfl ?_
        refine N_isub (pc := 47) dX8_findPlaces_47 (by omega) ?_
        refine G_goto (pc := 48) (tgt := 52) dX8_findPlaces_48 (by decide) ?_
        refine N_iast (pc := 52) dX8_findPlaces_52 (by first | rfl | assumption) (by first | rfl | assumption) (by omega) ?_
        refine N_iinc (pc := 53) dX8_findPlaces_53 rfl (by decide) rfl ?_
        refine G_goto (pc := 56) (tgt := 10) dX8_findPlaces_56 (by decide) ?_
        first | exact step _ _ rfl rfl | omega
    · skip
      rw [e1, e2, if_pos (by omega), if_pos (by omega)] at step
      refine G_iload_n (pc := 26) dX8_findPlaces_26 rfl rfl ?_
      refine G_goto (pc := 27) (tgt := 31) dX8_findPlaces_27 (by decide) ?_
      refine N_iast (pc := 31) dX8_findPlaces_31 (by first | rfl | assumption) (by first | rfl | assumption) (by omega) ?_
      refine G_aload_n (pc := 32) dX8_findPlaces_32 rfl rfl ?_
      refine S_getR (pc := 33) (b := a + 3) dX8_findPlaces_33 fX8_20 rfl rfl (by first | rfl | assumption) rfl rfl ?_
      refine G_bipush (pc := 36) (v := nI 8) dX8_findPlaces_36 (by decide) ?_
      refine G_iload_n (pc := 38) dX8_findPlaces_38 rfl rfl ?_
      refine N_iadd (pc := 39) dX8_findPlaces_39 ?_
      refine G_iload_n (pc := 40) dX8_findPlaces_40 rfl rfl ?_
      refine G_iload_n (pc := 41) dX8_findPlaces_41 rfl rfl ?_
      refine N_icmp_gt (pc := 42) (tgt := 51) dX8_findPlaces_42 (by decide) (by omega) (fun c42 => ?_) (fun c42 => ?_)
      · skip
        refine G_iconst (pc := 51) (v := (-1)) dX8_findPlaces_51 (by decide) ?_
        refine N_iast (pc := 52) dX8_findPlaces_52 (by first | rfl | assumption) (by first | rfl | assumption) (by omega) ?_
        refine N_iinc (pc := 53) dX8_findPlaces_53 rfl (by decide) rfl ?_
        refine G_goto (pc := 56) (tgt := 10) dX8_findPlaces_56 (by decide) ?_
        first | exact step _ _ rfl rfl | omega
      · skip
        refine G_iload_n (pc := 45) dX8_findPlaces_45 rfl rfl ?_
        refine G_iload_n (pc := 46) dX8_findPlaces_46 rfl rfl ?_
        refine N_isub (pc := 47) dX8_findPlaces_47 (by omega) ?_
        refine G_goto (pc := 48) (tgt := 52) dX8_findPlaces_48 (by decide) ?_
        refine N_iast (pc := 52) dX8_findPlaces_52 (by first | rfl | assumption) (by first | rfl | assumption) (by omega) ?_
        refine N_iinc (pc := 53) dX8_findPlaces_53 rfl (by decide) rfl ?_
        refine G_goto (pc := 56) (tgt := 10) dX8_findPlaces_56 (by decide) ?_
        first | exact step _ _ rfl rfl | omega
set_option maxRecDepth 100000 in
set_option maxHeartbeats 4000000 in
theorem findPlaces_lp2 {a n : Nat} {b : Nat → Int32} (ha : ThK a) (hn : n ≤ 16) :
    ∀ (d k : Nat) (S : ST), k + d = 4 → LnIs S a b n → (∀ p, p < 16 + 6 * k → S.2.1 (a + 3) p = midI (pl b n p)) →
      (∀ S', Fr noX (onA' (a + 3)) S S' → PlIs S' a b n → Q none (mk S')) →
      G sc mX8_findPlaces 61 [some (aR a), some (aI (nI n)), some (aI (nI k))] [] (mk S) Q := by
  have ha0 := ha
  obtain ⟨k0, k1, k2, k3, k4, k5, k6⟩ := ha
  intro d
  induction d with
  | zero =>
    intro k S hi hl hz h
    have e : k = 4 := by omega
    subst e
    refine G_iload_n (pc := 61) dX8_findPlaces_61 rfl rfl ?_
    refine G_iconst (pc := 62) (v := nI 3) dX8_findPlaces_62 (by decide) ?_
    refine N_icmp_gt (pc := 63) (tgt := 84) dX8_findPlaces_63 (by decide) (by omega) (fun c63 => ?_) (fun c63 => absurd c63 (by omega))
    refine S_vret (pc := 84) dX8_findPlaces_84 rfl ?_
    exact h S Fr.rf (fun p hp => hz p (by omega))
  | succ d ih =>
    intro k S hi hl hz h
    refine G_iload_n (pc := 61) dX8_findPlaces_61 rfl rfl ?_
    refine G_iconst (pc := 62) (v := nI 3) dX8_findPlaces_62 (by decide) ?_
    refine N_icmp_gt (pc := 63) (tgt := 84) dX8_findPlaces_63 (by decide) (by omega) (fun c63 => absurd c63 (by omega)) (fun c63 => ?_)
    refine G_aload_n (pc := 66) dX8_findPlaces_66 rfl rfl ?_
    refine G_iload_n (pc := 67) dX8_findPlaces_67 rfl rfl ?_
    refine G_bipush (pc := 68) (v := nI 16) dX8_findPlaces_68 (by decide) ?_
    refine G_bipush (pc := 70) (v := nI 6) dX8_findPlaces_70 (by decide) ?_
    refine G_iload_n (pc := 72) dX8_findPlaces_72 rfl rfl ?_
    refine N_imul (pc := 73) dX8_findPlaces_73 ?_
    refine N_iadd (pc := 74) dX8_findPlaces_74 ?_
    refine S_callV (av := [_, _]) (pc := 75) (z := mX8_findRuns) (ci := 7) dX8_findPlaces_75 zX8_findRuns lX8_findPlaces_40 rfl (by first | rfl | assumption) rfl rfl (sX8_findRuns ha0 hl hn (by omega) (fun S1 w1 w2 w3 => ⟨_, rfl, ?_⟩))
    refine N_iinc (pc := 78) dX8_findPlaces_78 rfl (by decide) rfl ?_
    refine G_goto (pc := 81) (tgt := 61) dX8_findPlaces_81 (by decide) ?_
    refine ih (k + 1) S1 (by omega) (hl.fr w1 (by simp) (by show ¬ _ = _; omega)) (fun p hp => ?_) (fun S' v1 v2 => h S' (w1.tr v1) v2)
    rcases Nat.lt_or_ge p (16 + 6 * k) with q | q
    · rw [w2 p (Or.inl q)]
      exact hz p q
    · exact w3 p q (by omega)
set_option maxRecDepth 100000 in
set_option maxHeartbeats 4000000 in
theorem sX8_findPlaces {a n : Nat} {b : Nat → Int32} (ha : ThK a) (hl : LnIs S a b n) (hn : n ≤ 16) (h : ∀ S', Fr noX (onA' (a + 3)) S S' → PlIs S' a b n → Q none (mk S')) : CT sc mX8_findPlaces [aR a] (mk S) Q := by
  refine S_of (by decide) rfl ?_
  show G sc mX8_findPlaces 0 [some (aR a), none, none] [] (mk S) Q
  have ha0 := ha
  obtain ⟨k0, k1, k2, k3, k4, k5, k6⟩ := ha
  refine G_aload_n (pc := 0) dX8_findPlaces_0 rfl rfl ?_
  refine S_getR (pc := 1) (b := a + 1) dX8_findPlaces_1 fX8_14 rfl rfl (by first | rfl | assumption) rfl rfl ?_
  refine S_getI (pc := 4) dX8_findPlaces_4 fX8_35 rfl (by first | rfl | assumption) rfl ?_
  rw [hl.1]
  refine G_istore_n (pc := 7) dX8_findPlaces_7 rfl (by decide) rfl ?_
  refine G_iconst (pc := 8) (v := nI 0) dX8_findPlaces_8 (by decide) ?_
  refine G_istore_n (pc := 9) dX8_findPlaces_9 rfl (by decide) rfl ?_
  refine findPlaces_lp1 (b := b) ha0 hn 8 0 S (by omega) (fun j hj => by omega) (fun S1 w1 w2 => ?_)
  refine G_iconst (pc := 59) (v := nI 0) dX8_findPlaces_59 (by decide) ?_
  refine G_istore_n (pc := 60) dX8_findPlaces_60 rfl (by decide) rfl ?_
  exact findPlaces_lp2 ha0 hn 4 0 S1 (by omega) (hl.fr w1 (by simp) (by show ¬ _ = _; omega)) w2 (fun S' v1 v2 => h S' (w1.tr v1) v2)
set_option maxRecDepth 100000 in
set_option maxHeartbeats 4000000 in
theorem cutInto_lp {a o m c fr to tn n : Nat} {b : Nat → Int32} (ha : ThK a) (ho : RwK o m) (hoa : o < a) (hto : to ≤ n) (hn : n ≤ 16) (htn : tn < 3) (hby : ∀ j, j < n → isBy (b j)) :
    ∀ (d i : Nat) (S : ST) (l : List Int32), i + d = to → RwIs S o l → l.length + d ≤ m → LnIs S a b n → (∀ S', Fr (rwX o) (rwA o) S S' → RwIs S' o (l ++ cutF b tn d i) → Q (some (aI (bI true))) (mk S')) →
      G sc mX8_cutInto 43 [some (aR a), some (aI (nI c)), some (aR o), some (aI (nI fr)), some (aI (nI to)), some (aI (nI tn)), some (aI (nI i))] [] (mk S) Q := by
  obtain ⟨k0, k1, k2, k3, k4, k5, k6⟩ := ha
  have ho0 := ho
  obtain ⟨j1, j2, j3⟩ := ho
  have hn2 : m ≤ 65536 := Nat.le_of_ble_eq_true j3
  intro d
  induction d with
  | zero =>
    intro i S l hi hr hlen hl h
    refine G_iload (pc := 43) dX8_cutInto_43 rfl ?_
    refine G_iload (pc := 45) dX8_cutInto_45 rfl ?_
    refine N_icmp_ge (pc := 47) (tgt := 75) dX8_cutInto_47 (by decide) (by omega) (fun c47 => ?_) (fun c47 => absurd c47 (by omega))
    refine G_iconst (pc := 75) (v := nI 1) dX8_cutInto_75 (by decide) ?_
    refine S_zret (pc := 76) dX8_cutInto_76 rfl rfl ?_
    exact h S Fr.rf (by rw [show l ++ cutF b tn 0 i = l by simp [cutF]]; exact hr)
  | succ d ih =>
    intro i S l hi hr hlen hl h
    refine G_iload (pc := 43) dX8_cutInto_43 rfl ?_
    refine G_iload (pc := 45) dX8_cutInto_45 rfl ?_
    refine N_icmp_ge (pc := 47) (tgt := 75) dX8_cutInto_47 (by decide) (by omega) (fun c47 => absurd c47 (by omega)) (fun c47 => ?_)
    refine G_aload_n (pc := 50) dX8_cutInto_50 rfl rfl ?_
    refine G_iload (pc := 51) dX8_cutInto_51 rfl ?_
    refine G_aload_n (pc := 53) dX8_cutInto_53 rfl rfl ?_
    refine S_getR (pc := 54) (b := a + 1) dX8_cutInto_54 fX8_14 rfl rfl (by first | rfl | assumption) rfl rfl ?_
    refine S_getR (pc := 57) (b := a + 1 + 1) dX8_cutInto_57 fX8_44 rfl rfl (by first | rfl | assumption) rfl rfl ?_
    refine G_iload (pc := 60) dX8_cutInto_60 rfl ?_
    refine N_bald (pc := 62) dX8_cutInto_62 (by first | rfl | assumption) (by first | rfl | assumption) (by omega) ?_
    rw [hl.2 i (by omega)]
    refine S_callS (av := [_, _]) (pc := 63) (z := mX1_turned) dX8_cutInto_63 zX1_turned lX8_cutInto_55 rfl (sX1_turned htn ⟨_, rfl, ?_⟩)
    refine S_callV (av := [_]) (pc := 66) (z := mX4_add) (ci := 3) dX8_cutInto_66 zX4_add lX8_cutInto_59 rfl (by first | rfl | assumption) rfl rfl (sX4_add ho0 hr (by omega) (turn_by (hby i (by omega))) ⟨_, rfl, ?_⟩)
    refine N_iinc (pc := 69) dX8_cutInto_69 rfl (by decide) rfl ?_
    refine G_goto (pc := 72) (tgt := 43) dX8_cutInto_72 (by decide) ?_
    have g0 : Fr (rwX o) (rwA o) S (upX (upI S (o + 1) l.length (turnI tn (b i))) o 1 (nI (l.length + 1))) := Fr.tr (Fr.upI rfl) (Fr.upX ⟨rfl, rfl⟩)
    refine ih (i + 1) _ (l ++ [turnI tn (b i)]) (by omega) hr.push (by simp; omega) (hl.fr g0 (by show ¬ (_ ∧ _); omega) (by show ¬ _ = _; omega)) (fun S' h1 h2 => h S' (g0.tr h1) ?_)
    rw [show l ++ cutF b tn (d + 1) i = l ++ [turnI tn (b i)] ++ cutF b tn d (i + 1) by simp [cutF]]
    exact h2
theorem midI_none {o : Option Nat} (h : o = none) : (midI o).toInt = -1 := by rw [h]; rfl
set_option maxRecDepth 100000 in
set_option maxHeartbeats 4000000 in
theorem sX8_cutInto {a o m c n : Nat} {b : Nat → Int32} {l : List Int32} (ha : ThK a) (ho : RwK o m) (hoa : o < a) (hn : n ≤ 16) (hc : c < 4800) (hl : LnIs S a b n) (hp : PlIs S a b n) (hby : ∀ j, j < n → isBy (b j)) (hr : RwIs S o l) (hlen : l.length + 16 ≤ m)
    (h1 : ∀ S' q, pcL b n c = some q → Fr (rwX o) (rwA o) S S' → RwIs S' o (l ++ q) → Q (some (aI (bI true))) (mk S')) (h0 : pcL b n c = none → Q (some (aI (bI false))) (mk S)) : CT sc mX8_cutInto [aR a, aI (nI c), aR o] (mk S) Q := by
  refine S_of (by decide) rfl ?_
  show G sc mX8_cutInto 0 [some (aR a), some (aI (nI c)), some (aR o), none, none, none, none] [] (mk S) Q
  have ha0 := ha
  obtain ⟨k0, k1, k2, k3, k4, k5, k6⟩ := ha
  rcases hf : pl b n (c / 120) with _ | f
  · have hf' := hp (c / 120) (by omega)
    rw [hf] at hf'
    refine G_aload_n (pc := 0) dX8_cutInto_0 rfl rfl ?_
    refine S_getR (pc := 1) (b := a + 3) dX8_cutInto_1 fX8_20 rfl rfl (by first | rfl | assumption) rfl rfl ?_
    refine G_iload_n (pc := 4) dX8_cutInto_4 rfl rfl ?_
    refine G_bipush (pc := 5) (v := nI 120) dX8_cutInto_5 (by decide) ?_
    refine N_idiv (pc := 7) dX8_cutInto_7 (by omega) ?_
    refine N_iald (pc := 8) dX8_cutInto_8 (by first | rfl | assumption) (by first | rfl | assumption) (by omega) ?_
    rw [hf']
    refine G_istore_n (pc := 9) dX8_cutInto_9 rfl (by decide) rfl ?_
    refine G_aload_n (pc := 10) dX8_cutInto_10 rfl rfl ?_
    refine S_getR (pc := 11) (b := a + 3) dX8_cutInto_11 fX8_20 rfl rfl (by first | rfl | assumption) rfl rfl ?_
    refine G_iload_n (pc := 14) dX8_cutInto_14 rfl rfl ?_
    refine G_iconst (pc := 15) (v := nI 3) dX8_cutInto_15 (by decide) ?_
    refine N_idiv (pc := 16) dX8_cutInto_16 (by omega) ?_
    refine G_bipush (pc := 17) (v := nI 40) dX8_cutInto_17 (by decide) ?_
    refine N_irem (pc := 19) dX8_cutInto_19 (by omega) ?_
    refine N_iald (pc := 20) dX8_cutInto_20 (by first | rfl | assumption) (by first | rfl | assumption) (by omega) ?_
    refine G_istore (pc := 21) dX8_cutInto_21 (by decide) rfl ?_
    refine G_iload_n (pc := 23) dX8_cutInto_23 rfl rfl ?_
    refine T_if_lt (pc := 24) (tgt := 33) dX8_cutInto_24 (by decide) (fun c24 => ?_) (fun c24 => absurd c24 (by show ¬ (-1 : Int) < 0 → False; omega))
    refine G_iconst (pc := 33) (v := nI 0) dX8_cutInto_33 (by decide) ?_
    refine S_zret (pc := 34) dX8_cutInto_34 rfl rfl ?_
    exact h0 (pcL_n1 hc hf)
  · have hf' := hp (c / 120) (by omega)
    rw [hf] at hf'
    have hf' : S.2.1 (a + 3) (c / 120) = nI f := hf'
    have hfn := pl_le hf
    rcases ht : pl b n (c / 3 % 40) with _ | t
    · have ht' := hp (c / 3 % 40) (by omega)
      rw [ht] at ht'
      refine G_aload_n (pc := 0) dX8_cutInto_0 rfl rfl ?_
      refine S_getR (pc := 1) (b := a + 3) dX8_cutInto_1 fX8_20 rfl rfl (by first | rfl | assumption) rfl rfl ?_
      refine G_iload_n (pc := 4) dX8_cutInto_4 rfl rfl ?_
      refine G_bipush (pc := 5) (v := nI 120) dX8_cutInto_5 (by decide) ?_
      refine N_idiv (pc := 7) dX8_cutInto_7 (by omega) ?_
      refine N_iald (pc := 8) dX8_cutInto_8 (by first | rfl | assumption) (by first | rfl | assumption) (by omega) ?_
      rw [hf']
      refine G_istore_n (pc := 9) dX8_cutInto_9 rfl (by decide) rfl ?_
      refine G_aload_n (pc := 10) dX8_cutInto_10 rfl rfl ?_
      refine S_getR (pc := 11) (b := a + 3) dX8_cutInto_11 fX8_20 rfl rfl (by first | rfl | assumption) rfl rfl ?_
      refine G_iload_n (pc := 14) dX8_cutInto_14 rfl rfl ?_
      refine G_iconst (pc := 15) (v := nI 3) dX8_cutInto_15 (by decide) ?_
      refine N_idiv (pc := 16) dX8_cutInto_16 (by omega) ?_
      refine G_bipush (pc := 17) (v := nI 40) dX8_cutInto_17 (by decide) ?_
      refine N_irem (pc := 19) dX8_cutInto_19 (by omega) ?_
      refine N_iald (pc := 20) dX8_cutInto_20 (by first | rfl | assumption) (by first | rfl | assumption) (by omega) ?_
      rw [ht']
      refine G_istore (pc := 21) dX8_cutInto_21 (by decide) rfl ?_
      refine G_iload_n (pc := 23) dX8_cutInto_23 rfl rfl ?_
      refine N_if_lt (pc := 24) (tgt := 33) dX8_cutInto_24 (by decide) (by omega) ?_
      refine G_iload (pc := 27) dX8_cutInto_27 rfl ?_
      refine G_iload_n (pc := 29) dX8_cutInto_29 rfl rfl ?_
      refine T_icmp_gt (pc := 30) (tgt := 35) dX8_cutInto_30 (by decide) (fun c30 => absurd c30 (by rw [nIt (by omega)]; show ¬ (f : Int) < -1; omega)) (fun c30 => ?_)
      refine G_iconst (pc := 33) (v := nI 0) dX8_cutInto_33 (by decide) ?_
      refine S_zret (pc := 34) dX8_cutInto_34 rfl rfl ?_
      exact h0 (pcL_n2 hc hf ht)
    · have ht' := hp (c / 3 % 40) (by omega)
      rw [ht] at ht'
      have ht' : S.2.1 (a + 3) (c / 3 % 40) = nI t := ht'
      have htn := pl_le ht
      have hpc := pcL_cut hc hf ht
      refine G_aload_n (pc := 0) dX8_cutInto_0 rfl rfl ?_
      refine S_getR (pc := 1) (b := a + 3) dX8_cutInto_1 fX8_20 rfl rfl (by first | rfl | assumption) rfl rfl ?_
      refine G_iload_n (pc := 4) dX8_cutInto_4 rfl rfl ?_
      refine G_bipush (pc := 5) (v := nI 120) dX8_cutInto_5 (by decide) ?_
      refine N_idiv (pc := 7) dX8_cutInto_7 (by omega) ?_
      refine N_iald (pc := 8) dX8_cutInto_8 (by first | rfl | assumption) (by first | rfl | assumption) (by omega) ?_
      rw [hf']
      refine G_istore_n (pc := 9) dX8_cutInto_9 rfl (by decide) rfl ?_
      refine G_aload_n (pc := 10) dX8_cutInto_10 rfl rfl ?_
      refine S_getR (pc := 11) (b := a + 3) dX8_cutInto_11 fX8_20 rfl rfl (by first | rfl | assumption) rfl rfl ?_
      refine G_iload_n (pc := 14) dX8_cutInto_14 rfl rfl ?_
      refine G_iconst (pc := 15) (v := nI 3) dX8_cutInto_15 (by decide) ?_
      refine N_idiv (pc := 16) dX8_cutInto_16 (by omega) ?_
      refine G_bipush (pc := 17) (v := nI 40) dX8_cutInto_17 (by decide) ?_
      refine N_irem (pc := 19) dX8_cutInto_19 (by omega) ?_
      refine N_iald (pc := 20) dX8_cutInto_20 (by first | rfl | assumption) (by first | rfl | assumption) (by omega) ?_
      rw [ht']
      refine G_istore (pc := 21) dX8_cutInto_21 (by decide) rfl ?_
      refine G_iload_n (pc := 23) dX8_cutInto_23 rfl rfl ?_
      refine N_if_lt (pc := 24) (tgt := 33) dX8_cutInto_24 (by decide) (by omega) ?_
      refine G_iload (pc := 27) dX8_cutInto_27 rfl ?_
      refine G_iload_n (pc := 29) dX8_cutInto_29 rfl rfl ?_
      refine N_icmp_gt (pc := 30) (tgt := 35) dX8_cutInto_30 (by decide) (by omega) (fun c30 => ?_) (fun c30 => ?_)
      · skip
        rw [if_pos (by omega)] at hpc
        refine G_iload_n (pc := 35) dX8_cutInto_35 rfl rfl ?_
        refine G_iconst (pc := 36) (v := nI 3) dX8_cutInto_36 (by decide) ?_
        refine N_irem (pc := 37) dX8_cutInto_37 (by omega) ?_
        refine G_istore (pc := 38) dX8_cutInto_38 (by decide) rfl ?_
        refine G_iload_n (pc := 40) dX8_cutInto_40 rfl rfl ?_
        refine G_istore (pc := 41) dX8_cutInto_41 (by decide) rfl ?_
        exact cutInto_lp ha0 ho hoa htn hn (by omega) hby (t - f) f S l (by omega) hr (by omega) hl (fun S' g1 g2 => h1 S' _ hpc g1 g2)
      · skip
        rw [if_neg (by omega)] at hpc
        refine G_iconst (pc := 33) (v := nI 0) dX8_cutInto_33 (by decide) ?_
        refine S_zret (pc := 34) dX8_cutInto_34 rfl rfl ?_
        exact h0 hpc
end C2
