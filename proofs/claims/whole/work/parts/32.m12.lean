/-! the model: put, made, show, count -/
/-- the out row's numbers don't touch what the state is -/
theorem Fr_MIc {S S' : ST} (h : Fr oX oA S S') (hc : MIc S) : MIc S' := by
  intro k hk
  have q := hc k hk
  simp only [rsN, h.2.1 411 (by decide), h.2.1 410 (by decide)] at q ⊢
  exact q
def isCutB (c : Int32) : Bool := decide (0 ≤ c.toInt ∧ c.toInt ≤ 4799)
def sp_made (S : ST) (t c i : Int32) : Int32 := if isTh (thN S) t = true ∧ isCutB c = true ∧ -1 ≤ i.toInt then (match pcL (lnB S t.toNatClampNeg) (szN S t.toNatClampNeg) c.toNatClampNeg with
  | some l => told l i
  | none => -4) else -1
theorem cut_len {b : Nat → Int32} {n p : Nat} {q : List Int32} (hp : p < 4800) (hn : n ≤ 16) (h : pcL b n p = some q) : 1 ≤ q.length ∧ q.length ≤ 16 := by
  rcases hf : pl b n (p / 120) with _ | f
  · rw [pcL_n1 hp hf] at h; cases h
  · rcases ht : pl b n (p / 3 % 40) with _ | t
    · rw [pcL_n2 hp hf ht] at h; cases h
    · rw [pcL_cut hp hf ht] at h
      have g2 := pl_le ht
      split at h
      · cases h
        rw [cutF_len]
        omega
      · cases h
section M12
variable {sc : SC} {S : ST} {Q : Option AV → HM → Prop}
set_option maxRecDepth 100000 in
set_option maxHeartbeats 4000000 in
theorem sX10_made {t c i : Int32} (ha : MIa S) (h : ∀ S', Fr oX oA S S' → Q (some (aI (sp_made S t c i))) (mk S')) : CT sc mX10_made [aR 389, aI t, aI c, aI i] (mk S) Q := by
  refine S_of (by decide) rfl ?_
  show G sc mX10_made 0 [some (aR 389), some (aI t), some (aI c), some (aI i)] [] (mk S) Q
  have hn := ha.1
  have z0 : (0 : Int64).toInt = 0 := rfl
  have z9 : (4799 : Int64).toInt = 4799 := rfl
  have z1 : (-1 : Int32).toInt = -1 := rfl
  refine G_aload_n (pc := 0) dX10_made_0 rfl rfl ?_
  refine G_iload_n (pc := 1) dX10_made_1 rfl rfl ?_
  refine S_callV (av := [_]) (pc := 2) (z := mX10_isThing) (ci := 9) dX10_made_2 zX10_isThing lX10_made_105 rfl (by first | rfl | assumption) rfl rfl (sX10_isThing hn.1 (by omega) ⟨_, rfl, ?_⟩)
  refine B_if_eq (pc := 5) (tgt := 25) dX10_made_5 (by decide) (fun c5 => ?_) (fun c5 => ?_)
  · skip
    refine G_iconst (pc := 25) (v := (-1)) dX10_made_25 (by decide) ?_
    refine S_iret (pc := 26) dX10_made_26 rfl ?_
    exact q_i (h S Fr.rf) (by unfold sp_made isCutB; rw [if_neg (by first | (rw [decide_eq_true_iff]; omega) | (intro q; rw [c5] at q; exact absurd q.1 (by decide)))])
  · skip
    refine G_iload_n (pc := 8) dX10_made_8 rfl rfl ?_
    refine G_i2l (pc := 9) dX10_made_9 ?_
    refine G_lconst (pc := 10) (v := 0) dX10_made_10 (by decide) ?_
    refine G_ldc2 (pc := 11) dX10_made_11 kX10_156 ?_
    refine S_callS (av := [_, _, _]) (pc := 14) (z := mX10_in) dX10_made_14 zX10_in lX10_made_84 rfl (sX10_in ⟨_, rfl, ?_⟩)
    refine B_if_eq (pc := 17) (tgt := 25) dX10_made_17 (by decide) (fun c17 => ?_) (fun c17 => ?_)
    · skip
      rw [decide_eq_false_iff_not, Int32.toInt_toInt64, z0, z9] at c17
      refine G_iconst (pc := 25) (v := (-1)) dX10_made_25 (by decide) ?_
      refine S_iret (pc := 26) dX10_made_26 rfl ?_
      exact q_i (h S Fr.rf) (by unfold sp_made isCutB; rw [if_neg (by first | (rw [decide_eq_true_iff]; omega) | (intro q; rw [c5] at q; exact absurd q.1 (by decide)))])
    · skip
      rw [decide_eq_true_iff, Int32.toInt_toInt64, z0, z9] at c17
      refine G_iload_n (pc := 20) dX10_made_20 rfl rfl ?_
      refine G_iconst (pc := 21) (v := (-1)) dX10_made_21 (by decide) ?_
      refine T_icmp_ge (pc := 22) (tgt := 27) dX10_made_22 (by decide) (fun c22 => ?_) (fun c22 => ?_)
      · skip
        rw [z1] at c22
        obtain ⟨k, hk, rfl⟩ := isTh_of c5
        obtain ⟨p, hp, rfl⟩ := nI_ex (x := c) (n := 4800) (by omega) (by omega)
        have hs := ha.2 k hk
        have e : sp_made S (nI k) (nI p) i = match pcL (lnB S k) (szN S k) p with
          | some l => told l i
          | none => -4 := by
          unfold sp_made isCutB
          rw [if_pos ⟨c5, decide_eq_true (by omega), by omega⟩, nI_clamp (by omega), nI_clamp (by omega)]
        rw [e] at h
        have F0 : Fr oX oA S (upX S 389 12 (nI 0)) := Fr.upX ⟨rfl, rfl⟩
        refine G_aload_n (pc := 27) dX10_made_27 rfl rfl ?_
        refine G_iconst (pc := 28) (v := nI 0) dX10_made_28 (by decide) ?_
        refine S_putI (pc := 29) dX10_made_29 fX10_150 (by decide) rfl (by first | rfl | assumption) rfl ?_
        refine G_aload_n (pc := 32) dX10_made_32 rfl rfl ?_
        refine G_iload_n (pc := 33) dX10_made_33 rfl rfl ?_
        refine G_iload_n (pc := 34) dX10_made_34 rfl rfl ?_
        refine S_callV (av := [_, _]) (pc := 35) (z := mX10_makePiece) (ci := 9) dX10_made_35 zX10_makePiece lX10_made_158 rfl (by first | rfl | assumption) rfl rfl (sX10_makePiece (n := szN S k) (l := []) (by omega) hs.1 hs.2.2.1 (Or.inl hp) RowIs.nil (by simp) (fun S' q g1 g2 g3 => ⟨_, rfl, ?_⟩) (fun g1 => ⟨_, rfl, ?_⟩))
        · have g1 : pcL (lnB S k) (szN S k) p = some q := g1
          rw [g1] at h
          have gl := cut_len hp hs.2.2.1 g1
          refine B_if_eq (pc := 38) (tgt := 49) dX10_made_38 (by decide) (fun c38 => absurd c38 (by decide)) (fun c38 => ?_)
          refine G_aload_n (pc := 41) dX10_made_41 rfl rfl ?_
          refine G_iload_n (pc := 42) dX10_made_42 rfl rfl ?_
          refine S_callV (av := [_]) (pc := 43) (z := mX10_byteOf) (ci := 9) dX10_made_43 zX10_byteOf lX10_made_161 rfl (by first | rfl | assumption) rfl rfl (sX10_byteOf g3 (by simp; omega) ⟨_, rfl, ?_⟩)
          refine G_goto (pc := 46) (tgt := 51) dX10_made_46 (by decide) ?_
          refine S_iret (pc := 51) dX10_made_51 rfl ?_
          exact h S' (F0.tr g2)
        have g1 : pcL (lnB S k) (szN S k) p = none := g1
        rw [g1] at h
        skip
        refine B_if_eq (pc := 38) (tgt := 49) dX10_made_38 (by decide) (fun c38 => ?_) (fun c38 => absurd c38 (by decide))
        refine G_bipush (pc := 49) (v := (-4)) dX10_made_49 (by decide) ?_
        refine S_iret (pc := 51) dX10_made_51 rfl ?_
        exact h _ F0
      · skip
        rw [z1] at c22
        refine G_iconst (pc := 25) (v := (-1)) dX10_made_25 (by decide) ?_
        refine S_iret (pc := 26) dX10_made_26 rfl ?_
        exact q_i (h S Fr.rf) (by unfold sp_made isCutB; rw [if_neg (by first | (rw [decide_eq_true_iff]; omega) | (intro q; rw [c5] at q; exact absurd q.1 (by decide)))])
set_option maxRecDepth 100000 in
set_option maxHeartbeats 4000000 in
theorem put_lp {t c s la fr : Nat} {o6 : Int32} {l : List Int32} (hs : s < 4) (hl : OutIs S l) (hlen : l.length ≤ 36) (hf : fr + l.length ≤ 20) :
    ∀ (d j : Nat), j + d = l.length → Q (some (aI (nI l.length))) (mk (upR S 412 (20 * s + fr) l.length (S.2.1 397))) →
      G sc mX10_put 93 [some (aR 389), some (aI (nI t)), some (aI (nI c)), some (aI (nI s)), some (aI (nI la)), some (aI (nI fr)), some (aI o6), some (aI (nI j))] [] (mk (upR S 412 (20 * s + fr) j (S.2.1 397))) Q := by
  intro d
  induction d with
  | zero =>
    intro j hj h
    have e : j = l.length := by omega
    subst e
    refine G_iload (pc := 93) dX10_put_93 rfl ?_
    refine G_aload_n (pc := 95) dX10_put_95 rfl rfl ?_
    refine S_getI (pc := 96) dX10_put_96 fX10_150 rfl (by first | rfl | assumption) rfl ?_
    rw [show (upR S 412 (20 * s + fr) l.length (S.2.1 397)).1 389 12 = nI l.length from hl.1]
    refine N_icmp_ge (pc := 99) (tgt := 130) dX10_put_99 (by decide) (by omega) (fun c99 => ?_) (fun c99 => absurd c99 (by omega))
    refine G_aload_n (pc := 130) dX10_put_130 rfl rfl ?_
    refine S_getI (pc := 131) dX10_put_131 fX10_150 rfl (by first | rfl | assumption) rfl ?_
    rw [show (upR S 412 (20 * s + fr) l.length (S.2.1 397)).1 389 12 = nI l.length from hl.1]
    refine S_iret (pc := 134) dX10_put_134 rfl ?_
    exact h
  | succ d ih =>
    intro j hj h
    refine G_iload (pc := 93) dX10_put_93 rfl ?_
    refine G_aload_n (pc := 95) dX10_put_95 rfl rfl ?_
    refine S_getI (pc := 96) dX10_put_96 fX10_150 rfl (by first | rfl | assumption) rfl ?_
    rw [show (upR S 412 (20 * s + fr) j (S.2.1 397)).1 389 12 = nI l.length from hl.1]
    refine N_icmp_ge (pc := 99) (tgt := 130) dX10_put_99 (by decide) (by omega) (fun c99 => absurd c99 (by omega)) (fun c99 => ?_)
    refine G_aload_n (pc := 102) dX10_put_102 rfl rfl ?_
    refine S_getR (pc := 103) (b := 412) dX10_put_103 fX10_77 rfl rfl (by first | rfl | assumption) rfl rfl ?_
    refine G_bipush (pc := 106) (v := nI 20) dX10_put_106 (by decide) ?_
    refine G_iload_n (pc := 108) dX10_put_108 rfl rfl ?_
    refine N_imul (pc := 109) dX10_put_109 ?_
    refine G_iload (pc := 110) dX10_put_110 rfl ?_
    refine N_iadd (pc := 112) dX10_put_112 ?_
    refine G_iload (pc := 113) dX10_put_113 rfl ?_
    refine N_iadd (pc := 115) dX10_put_115 ?_
    refine G_aload_n (pc := 116) dX10_put_116 rfl rfl ?_
    refine S_getR (pc := 117) (b := 397) dX10_put_117 fX10_31 rfl rfl (by first | rfl | assumption) rfl rfl ?_
    refine G_iload (pc := 120) dX10_put_120 rfl ?_
    refine N_iald (pc := 122) dX10_put_122 (by first | rfl | assumption) rfl (by omega) ?_
    rw [show (upR S 412 (20 * s + fr) j (S.2.1 397)).2.1 397 j = S.2.1 397 j from upR_n (by omega)]
    refine N_iast (pc := 123) dX10_put_123 (by first | rfl | assumption) rfl (by omega) ?_
    rw [upR_s]
    refine N_iinc (pc := 124) dX10_put_124 rfl (by decide) rfl ?_
    refine G_goto (pc := 127) (tgt := 93) dX10_put_127 (by decide) ?_
    exact ih (j + 1) (by omega) h
set_option maxRecDepth 100000 in
set_option maxHeartbeats 4000000 in
theorem sX10_put {t c s l f : Int32} (ha : MIa S) (hc : MIc S) (hbad : isTh (thN S) t = false ∨ isCutB c = false ∨ isShB s l = false → Q (some (aI (-1))) (mk S))
    (hno : ∀ k, s = nI k → k < 4 → isTh (thN S) t = true → isCutB c = true → isShB s l = true → ¬ (S.2.1 410 k).toInt = l.toInt → Q (some (aI (lackV (S.2.1 410 k) l))) (mk S))
    (hnone : ∀ k u p, s = nI k → t = nI u → c = nI p → k < 4 → u < thN S → p < 4800 → isTh (thN S) t = true → isCutB c = true → isShB s l = true → (S.2.1 410 k).toInt = l.toInt → pcL (lnB S u) (szN S u) p = none → ∀ S', Fr oX oA S S' → Q (some (aI (-4))) (mk S'))
    (hidx : ∀ k u p q, s = nI k → t = nI u → c = nI p → k < 4 → u < thN S → p < 4800 → isTh (thN S) t = true → isCutB c = true → isShB s l = true → (S.2.1 410 k).toInt = l.toInt → pcL (lnB S u) (szN S u) p = some q → ¬ (0 ≤ f.toInt ∧ f.toInt ≤ (rsN S k : Int) - q.length) → ∀ S', Fr oX oA S S' → Q (some (aI (-13))) (mk S'))
    (hok : ∀ k u p q b, s = nI k → t = nI u → c = nI p → f = nI b → k < 4 → u < thN S → p < 4800 → isTh (thN S) t = true → isCutB c = true → isShB s l = true → (S.2.1 410 k).toInt = l.toInt → pcL (lnB S u) (szN S u) p = some q → b + q.length ≤ rsN S k → ∀ S', Fr oX oA S S' → OutIs S' q → Q (some (aI (nI q.length))) (mk (upR S' 412 (20 * k + b) q.length (S'.2.1 397)))) : CT sc mX10_put [aR 389, aI t, aI c, aI s, aI l, aI f] (mk S) Q := by
  refine S_of (by decide) rfl ?_
  show G sc mX10_put 0 [some (aR 389), some (aI t), some (aI c), some (aI s), some (aI l), some (aI f), none, none] [] (mk S) Q
  have hn := ha.1
  have z0 : (0 : Int64).toInt = 0 := rfl
  have z9 : (4799 : Int64).toInt = 4799 := rfl
  refine G_aload_n (pc := 0) dX10_put_0 rfl rfl ?_
  refine G_iload_n (pc := 1) dX10_put_1 rfl rfl ?_
  refine S_callV (av := [_]) (pc := 2) (z := mX10_isThing) (ci := 9) dX10_put_2 zX10_isThing lX10_put_105 rfl (by first | rfl | assumption) rfl rfl (sX10_isThing hn.1 (by omega) ⟨_, rfl, ?_⟩)
  refine B_if_eq (pc := 5) (tgt := 29) dX10_put_5 (by decide) (fun c5 => ?_) (fun c5 => ?_)
  · skip
    refine G_iconst (pc := 29) (v := (-1)) dX10_put_29 (by decide) ?_
    refine S_iret (pc := 30) dX10_put_30 rfl ?_
    first | exact hbad (Or.inl c5) | exact hbad (Or.inr (Or.inl c17')) | exact hbad (Or.inr (Or.inr c26))
  · skip
    refine G_iload_n (pc := 8) dX10_put_8 rfl rfl ?_
    refine G_i2l (pc := 9) dX10_put_9 ?_
    refine G_lconst (pc := 10) (v := 0) dX10_put_10 (by decide) ?_
    refine G_ldc2 (pc := 11) dX10_put_11 kX10_156 ?_
    refine S_callS (av := [_, _, _]) (pc := 14) (z := mX10_in) dX10_put_14 zX10_in lX10_put_84 rfl (sX10_in ⟨_, rfl, ?_⟩)
    refine B_if_eq (pc := 17) (tgt := 29) dX10_put_17 (by decide) (fun c17 => ?_) (fun c17 => ?_)
    · skip
      rw [decide_eq_false_iff_not, Int32.toInt_toInt64, z0, z9] at c17
      have c17' : isCutB c = false := decide_eq_false c17
      refine G_iconst (pc := 29) (v := (-1)) dX10_put_29 (by decide) ?_
      refine S_iret (pc := 30) dX10_put_30 rfl ?_
      first | exact hbad (Or.inl c5) | exact hbad (Or.inr (Or.inl c17')) | exact hbad (Or.inr (Or.inr c26))
    · skip
      rw [decide_eq_true_iff, Int32.toInt_toInt64, z0, z9] at c17
      have c17' : isCutB c = true := decide_eq_true c17
      refine G_iload_n (pc := 20) dX10_put_20 rfl rfl ?_
      refine G_iload (pc := 21) dX10_put_21 rfl ?_
      refine S_callS (av := [_, _]) (pc := 23) (z := mX10_isSheet) dX10_put_23 zX10_isSheet lX10_put_324 rfl (sX10_isSheet ⟨_, rfl, ?_⟩)
      refine B_if_ne (pc := 26) (tgt := 31) dX10_put_26 (by decide) (fun c26 => ?_) (fun c26 => ?_)
      · skip
        obtain ⟨k, la, hk, hq, rfl, rfl⟩ := isShB_of c26
        obtain ⟨u, hu, rfl⟩ := isTh_of c5
        obtain ⟨p, hp, rfl⟩ := nI_ex (x := c) (n := 4800) (by omega) (by omega)
        have hs := ha.2 u hu
        have hsh := hc k hk
        have F0 : Fr oX oA S (upX S 389 12 (nI 0)) := Fr.upX ⟨rfl, rfl⟩
        refine G_aload_n (pc := 31) dX10_put_31 rfl rfl ?_
        refine G_iload_n (pc := 32) dX10_put_32 rfl rfl ?_
        refine G_iload (pc := 33) dX10_put_33 rfl ?_
        refine S_callV (av := [_, _]) (pc := 35) (z := mX10_lacksRow) (ci := 9) dX10_put_35 zX10_lacksRow lX10_put_327 rfl (by first | rfl | assumption) rfl rfl (sX10_lacksRow hk ⟨_, rfl, ?_⟩)
        refine G_istore (pc := 38) dX10_put_38 (by decide) rfl ?_
        refine G_iload (pc := 40) dX10_put_40 rfl ?_
        refine T_if_ge (pc := 42) (tgt := 48) dX10_put_42 (by decide) (fun c42 => ?_) (fun c42 => ?_)
        · skip
          have e : (S.2.1 410 k).toInt = (nI la).toInt := by
            by_cases z : (S.2.1 410 k).toInt = (nI la).toInt
            · exact z
            · exfalso
              unfold lackV at c42
              rw [if_neg z] at c42
              split at c42 <;> exact absurd c42 (by decide)
          refine G_aload_n (pc := 48) dX10_put_48 rfl rfl ?_
          refine G_iconst (pc := 49) (v := nI 0) dX10_put_49 (by decide) ?_
          refine S_putI (pc := 50) dX10_put_50 fX10_150 (by decide) rfl (by first | rfl | assumption) rfl ?_
          refine G_aload_n (pc := 53) dX10_put_53 rfl rfl ?_
          refine G_iload_n (pc := 54) dX10_put_54 rfl rfl ?_
          refine G_iload_n (pc := 55) dX10_put_55 rfl rfl ?_
          refine S_callV (av := [_, _]) (pc := 56) (z := mX10_makePiece) (ci := 9) dX10_put_56 zX10_makePiece lX10_put_158 rfl (by first | rfl | assumption) rfl rfl (sX10_makePiece (n := szN S u) (l := []) (by omega) hs.1 hs.2.2.1 (Or.inl hp) RowIs.nil (by simp) (fun S' q g1 g2 g3 => ⟨_, rfl, ?_⟩) (fun g1 => ⟨_, rfl, ?_⟩))
          · have g1 : pcL (lnB S u) (szN S u) p = some q := g1
            have gl := cut_len hp hs.2.2.1 g1
            have g3 : OutIs S' q := g3
            have F1 := F0.tr g2
            have hr : S'.2.1 411 k = nI (rsN S k) := (F1.2.1 411 (by decide) k).trans hsh.1.1
            refine B_if_ne (pc := 59) (tgt := 65) dX10_put_59 (by decide) (fun c59 => ?_) (fun c59 => absurd c59 (by decide))
            refine G_iload (pc := 65) dX10_put_65 rfl ?_
            refine G_i2l (pc := 67) dX10_put_67 ?_
            refine G_lconst (pc := 68) (v := 0) dX10_put_68 (by decide) ?_
            refine G_aload_n (pc := 69) dX10_put_69 rfl rfl ?_
            refine S_getR (pc := 70) (b := 411) dX10_put_70 fX10_74 rfl rfl (by first | rfl | assumption) rfl rfl ?_
            refine G_iload_n (pc := 73) dX10_put_73 rfl rfl ?_
            refine N_iald (pc := 74) dX10_put_74 (by first | rfl | assumption) rfl (by omega) ?_
            rw [hr]
            refine G_aload_n (pc := 75) dX10_put_75 rfl rfl ?_
            refine S_getI (pc := 76) dX10_put_76 fX10_150 rfl (by first | rfl | assumption) rfl ?_
            rw [g3.1]
            refine G_isub (pc := 79) dX10_put_79 ?_
            refine G_i2l (pc := 80) dX10_put_80 ?_
            refine S_callS (av := [_, _, _]) (pc := 81) (z := mX10_in) dX10_put_81 zX10_in lX10_put_84 rfl (sX10_in ⟨_, rfl, ?_⟩)
            refine B_if_ne (pc := 84) (tgt := 90) dX10_put_84 (by decide) (fun c84 => ?_) (fun c84 => ?_)
            · skip
              rw [decide_eq_true_iff, Int32.toInt_toInt64, Int32.toInt_toInt64, z0, pk_sub_toInt (by omega) (by omega)] at c84
              obtain ⟨b, hb, rfl⟩ := nI_ex (x := f) (n := 21) (by omega) (by omega)
              rw [nIt (by omega)] at c84
              refine G_iconst (pc := 90) (v := nI 0) dX10_put_90 (by decide) ?_
              refine G_istore (pc := 91) dX10_put_91 (by decide) rfl ?_
              have e0 : mk S' = mk (upR S' 412 (20 * k + b) 0 (S'.2.1 397)) := by rw [upR_0]
              rw [e0]
              exact put_lp hk g3 (by omega) (by omega) q.length 0 (by omega) (hok k u p q b rfl rfl rfl rfl hk hu hp c5 c17' c26 e g1 (by omega) S' F1 g3)
            · skip
              rw [decide_eq_false_iff_not, Int32.toInt_toInt64, Int32.toInt_toInt64, z0, pk_sub_toInt (by omega) (by omega)] at c84
              refine G_bipush (pc := 87) (v := (-13)) dX10_put_87 (by decide) ?_
              refine S_iret (pc := 89) dX10_put_89 rfl ?_
              exact hidx k u p q rfl rfl rfl hk hu hp c5 c17' c26 e g1 c84 S' F1
          have g1 : pcL (lnB S u) (szN S u) p = none := g1
          skip
          refine B_if_ne (pc := 59) (tgt := 65) dX10_put_59 (by decide) (fun c59 => absurd c59 (by decide)) (fun c59 => ?_)
          refine G_bipush (pc := 62) (v := (-4)) dX10_put_62 (by decide) ?_
          refine S_iret (pc := 64) dX10_put_64 rfl ?_
          exact hnone k u p rfl rfl rfl hk hu hp c5 c17' c26 e g1 _ F0
        · skip
          have e : ¬ (S.2.1 410 k).toInt = (nI la).toInt := fun z => c42 (by unfold lackV; rw [if_pos z]; decide)
          refine G_iload (pc := 45) dX10_put_45 rfl ?_
          refine S_iret (pc := 47) dX10_put_47 rfl ?_
          exact hno k rfl hk c5 c17' c26 e
      · skip
        refine G_iconst (pc := 29) (v := (-1)) dX10_put_29 (by decide) ?_
        refine S_iret (pc := 30) dX10_put_30 rfl ?_
        first | exact hbad (Or.inl c5) | exact hbad (Or.inr (Or.inl c17')) | exact hbad (Or.inr (Or.inr c26))
end M12
