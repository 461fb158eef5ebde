/-! the model: toldOf, addKept, isKept, kept, run, show, count -/
def costS (ps : List Nat) : Nat → Nat
  | 0 => 0
  | k + 1 => costS ps k + (if k < ps.length then costN (ps.getD k 0) else 0)
def lenS (ps : List Nat) : Nat → Nat
  | 0 => 0
  | k + 1 => lenS ps k + (if k < ps.length then 1 else 0)
theorem costN_le {p : Nat} (h : isPc p) : costN p ≤ 5 := by
  unfold costN
  split
  · rcases h with h | h <;> omega
  · split <;> omega
theorem lenS_le (ps : List Nat) : ∀ k, lenS ps k ≤ k
  | 0 => Nat.le_refl _
  | k + 1 => by
    have := lenS_le ps k
    show lenS ps k + _ ≤ _
    split <;> omega
theorem lenS_3 {ps : List Nat} (h : ps.length ≤ 3) : lenS ps 3 = ps.length := by
  simp only [lenS]
  repeat' split
  all_goals omega
/-- what a program is told to be -/
def tolP (ps : List Nat) (w : Nat) : Int32 := if w = 0 then nI (costS ps 3) else if w = 1 then nI ps.length else if w - 2 < ps.length then nI (ps.getD (w - 2) 0) else -1
theorem getD_mem {ps : List Nat} {k : Nat} (h : k < ps.length) : ps.getD k 0 ∈ ps := by
  rw [List.getD_eq_getElem?_getD, List.getElem?_eq_getElem h]
  exact List.getElem_mem h
section M14
variable {sc : SC} {S : ST} {Q : Option AV → HM → Prop}
theorem costS_le {ps : List Nat} (h : ∀ p ∈ ps, isPc p) : ∀ k, costS ps k ≤ 5 * k
  | 0 => Nat.le_refl _
  | k + 1 => by
    have := costS_le h k
    show costS ps k + _ ≤ _
    split
    · rename_i q
      have := costN_le (h _ (getD_mem q))
      omega
    · omega
set_option maxRecDepth 100000 in
set_option maxHeartbeats 4000000 in
theorem toldOf_lp {a b w z : Nat} {ps : List Nat} (hka : kd a = (10, z)) (hz : Nat.ble z 65536 = true) (hb : b + 3 ≤ z) (hw : w ≤ 4) (hps : PrIs S a b ps) (hpc : ∀ p ∈ ps, isPc p) :
    ∀ (d k : Nat), k + d = 3 → Q (some (aI (tolP ps w))) (mk S) →
      G sc mX10_toldOf 8 [some (aR a), some (aI (nI b)), some (aI (nI w)), some (aI (nI (costS ps k))), some (aI (nI (lenS ps k))), some (aI (nI k))] [] (mk S) Q := by
  obtain ⟨p1, p2, p3⟩ := hps
  have hz2 : z ≤ 65536 := Nat.le_of_ble_eq_true hz
  intro d
  induction d with
  | zero =>
    intro k hk h
    have e : k = 3 := by omega
    subst e
    have hl := lenS_3 p1
    refine G_iload (pc := 8) dX10_toldOf_8 rfl ?_
    refine G_iconst (pc := 10) (v := nI 3) dX10_toldOf_10 (by decide) ?_
    refine N_icmp_ge (pc := 11) (tgt := 64) dX10_toldOf_11 (by decide) (by omega) (fun c11 => ?_) (fun c11 => absurd c11 (by omega))
    unfold tolP at h
    refine G_iload_n (pc := 64) dX10_toldOf_64 rfl rfl ?_
    refine N_if_ne (pc := 65) (tgt := 72) dX10_toldOf_65 (by decide) (by omega) (fun c65 => ?_) (fun c65 => ?_)
    · skip
      rw [if_neg c65] at h
      refine G_iload_n (pc := 72) dX10_toldOf_72 rfl rfl ?_
      refine G_iconst (pc := 73) (v := nI 1) dX10_toldOf_73 (by decide) ?_
      refine N_icmp_ne (pc := 74) (tgt := 82) dX10_toldOf_74 (by decide) (by omega) (fun c74 => ?_) (fun c74 => ?_)
      · skip
        rw [if_neg c74] at h
        refine G_iload_n (pc := 82) dX10_toldOf_82 rfl rfl ?_
        refine G_iconst (pc := 83) (v := nI 2) dX10_toldOf_83 (by decide) ?_
        refine N_isub (pc := 84) dX10_toldOf_84 (by omega) ?_
        refine G_iload (pc := 85) dX10_toldOf_85 rfl ?_
        rw [hl]
        refine N_icmp_ge (pc := 87) (tgt := 100) dX10_toldOf_87 (by decide) (by omega) (fun c87 => ?_) (fun c87 => ?_)
        · skip
          rw [if_neg (by omega)] at h
          refine G_iconst (pc := 100) (v := (-1)) dX10_toldOf_100 (by decide) ?_
          refine S_iret (pc := 101) dX10_toldOf_101 rfl ?_
          first | exact h | exact q_i h (by rw [hl])
        · skip
          rw [if_pos (by omega)] at h
          refine G_aload_n (pc := 90) dX10_toldOf_90 rfl rfl ?_
          refine G_iload_n (pc := 91) dX10_toldOf_91 rfl rfl ?_
          refine G_iload_n (pc := 92) dX10_toldOf_92 rfl rfl ?_
          refine N_iadd (pc := 93) dX10_toldOf_93 ?_
          refine G_iconst (pc := 94) (v := nI 2) dX10_toldOf_94 (by decide) ?_
          refine N_isub (pc := 95) dX10_toldOf_95 (by omega) ?_
          refine N_iald (pc := 96) dX10_toldOf_96 (by first | rfl | assumption) (by first | rfl | assumption) (by omega) ?_
          rw [show S.2.1 a (b + w - 2) = nI (ps.getD (w - 2) 0) from by rw [show b + w - 2 = b + (w - 2) by omega]; exact p2 _ (by omega)]
          refine G_goto (pc := 97) (tgt := 101) dX10_toldOf_97 (by decide) ?_
          refine S_iret (pc := 101) dX10_toldOf_101 rfl ?_
          first | exact h | exact q_i h (by rw [hl])
      · skip
        rw [if_pos c74] at h
        refine G_iload (pc := 77) dX10_toldOf_77 rfl ?_
        refine G_goto (pc := 79) (tgt := 101) dX10_toldOf_79 (by decide) ?_
        refine S_iret (pc := 101) dX10_toldOf_101 rfl ?_
        first | exact h | exact q_i h (by rw [hl])
    · skip
      rw [if_pos c65] at h
      refine G_iload_n (pc := 68) dX10_toldOf_68 rfl rfl ?_
      refine G_goto (pc := 69) (tgt := 101) dX10_toldOf_69 (by decide) ?_
      refine S_iret (pc := 101) dX10_toldOf_101 rfl ?_
      first | exact h | exact q_i h (by rw [hl])
  | succ d ih =>
    intro k hk h
    have hc := costS_le hpc k
    have hl := lenS_le ps k
    by_cases hkl : k < ps.length
    · have hp : S.2.1 a (b + k) = nI (ps.getD k 0) := p2 k hkl
      have hpp := hpc _ (getD_mem hkl)
      have hpl := isPc_lt hpp
      have hcc := costN_le hpp
      have e1 : costS ps (k + 1) = costS ps k + costN (ps.getD k 0) := by show costS ps k + _ = _; rw [if_pos hkl]
      have e2 : lenS ps (k + 1) = lenS ps k + 1 := by show lenS ps k + _ = _; rw [if_pos hkl]
      refine G_iload (pc := 8) dX10_toldOf_8 rfl ?_
      refine G_iconst (pc := 10) (v := nI 3) dX10_toldOf_10 (by decide) ?_
      refine N_icmp_ge (pc := 11) (tgt := 64) dX10_toldOf_11 (by decide) (by omega) (fun c11 => absurd c11 (by omega)) (fun c11 => ?_)
      refine G_iload_n (pc := 14) dX10_toldOf_14 rfl rfl ?_
      refine G_aload_n (pc := 15) dX10_toldOf_15 rfl rfl ?_
      refine G_iload_n (pc := 16) dX10_toldOf_16 rfl rfl ?_
      refine G_iload (pc := 17) dX10_toldOf_17 rfl ?_
      refine N_iadd (pc := 19) dX10_toldOf_19 ?_
      refine N_iald (pc := 20) dX10_toldOf_20 (by first | rfl | assumption) (by first | rfl | assumption) (by omega) ?_
      rw [hp]
      refine N_if_ge (pc := 21) (tgt := 28) dX10_toldOf_21 (by decide) (by omega) ?_
      refine G_aload_n (pc := 28) dX10_toldOf_28 rfl rfl ?_
      refine G_iload_n (pc := 29) dX10_toldOf_29 rfl rfl ?_
      refine G_iload (pc := 30) dX10_toldOf_30 rfl ?_
      refine N_iadd (pc := 32) dX10_toldOf_32 ?_
      refine N_iald (pc := 33) dX10_toldOf_33 (by first | rfl | assumption) (by first | rfl | assumption) (by omega) ?_
      rw [hp]
      refine S_callS (av := [_]) (pc := 34) (z := mX10_costOf) dX10_toldOf_34 zX10_costOf lX10_toldOf_219 rfl (sX10_costOf (by omega) ⟨_, rfl, ?_⟩)
      refine N_iadd (pc := 37) dX10_toldOf_37 ?_
      refine G_istore_n (pc := 38) dX10_toldOf_38 rfl (by decide) rfl ?_
      refine G_iload (pc := 39) dX10_toldOf_39 rfl ?_
      refine G_aload_n (pc := 41) dX10_toldOf_41 rfl rfl ?_
      refine G_iload_n (pc := 42) dX10_toldOf_42 rfl rfl ?_
      refine G_iload (pc := 43) dX10_toldOf_43 rfl ?_
      refine N_iadd (pc := 45) dX10_toldOf_45 ?_
      refine N_iald (pc := 46) dX10_toldOf_46 (by first | rfl | assumption) (by first | rfl | assumption) (by omega) ?_
      rw [hp]
      refine N_if_ge (pc := 47) (tgt := 54) dX10_toldOf_47 (by decide) (by omega) ?_
      refine G_iconst (pc := 54) (v := nI 1) dX10_toldOf_54 (by decide) ?_
      refine N_iadd (pc := 55) dX10_toldOf_55 ?_
      refine G_istore (pc := 56) dX10_toldOf_56 (by decide) rfl ?_
      refine N_iinc (pc := 58) dX10_toldOf_58 rfl (by decide) rfl ?_
      refine G_goto (pc := 61) (tgt := 8) dX10_toldOf_61 (by decide) ?_
      rw [← e1, ← e2]
      exact ih (k + 1) (by omega) h
    · have hp : S.2.1 a (b + k) = -1 := p3 k (by omega) (by omega)
      have e1 : costS ps (k + 1) = costS ps k + 0 := by show costS ps k + _ = _; rw [if_neg hkl]
      have e2 : lenS ps (k + 1) = lenS ps k + 0 := by show lenS ps k + _ = _; rw [if_neg hkl]
      refine G_iload (pc := 8) dX10_toldOf_8 rfl ?_
      refine G_iconst (pc := 10) (v := nI 3) dX10_toldOf_10 (by decide) ?_
      refine N_icmp_ge (pc := 11) (tgt := 64) dX10_toldOf_11 (by decide) (by omega) (fun c11 => absurd c11 (by omega)) (fun c11 => ?_)
      refine G_iload_n (pc := 14) dX10_toldOf_14 rfl rfl ?_
      refine G_aload_n (pc := 15) dX10_toldOf_15 rfl rfl ?_
      refine G_iload_n (pc := 16) dX10_toldOf_16 rfl rfl ?_
      refine G_iload (pc := 17) dX10_toldOf_17 rfl ?_
      refine N_iadd (pc := 19) dX10_toldOf_19 ?_
      refine N_iald (pc := 20) dX10_toldOf_20 (by first | rfl | assumption) (by first | rfl | assumption) (by omega) ?_
      rw [hp]
      refine T_if_ge (pc := 21) (tgt := 28) dX10_toldOf_21 (by decide) (fun c21 => absurd c21 (by decide)) (fun c21 => ?_)
      refine G_iconst (pc := 24) (v := nI 0) dX10_toldOf_24 (by decide) ?_
      refine G_goto (pc := 25) (tgt := 37) dX10_toldOf_25 (by decide) ?_
      refine N_iadd (pc := 37) dX10_toldOf_37 ?_
      refine G_istore_n (pc := 38) dX10_toldOf_38 rfl (by decide) rfl ?_
      refine G_iload (pc := 39) dX10_toldOf_39 rfl ?_
      refine G_aload_n (pc := 41) dX10_toldOf_41 rfl rfl ?_
      refine G_iload_n (pc := 42) dX10_toldOf_42 rfl rfl ?_
      refine G_iload (pc := 43) dX10_toldOf_43 rfl ?_
      refine N_iadd (pc := 45) dX10_toldOf_45 ?_
      refine N_iald (pc := 46) dX10_toldOf_46 (by first | rfl | assumption) (by first | rfl | assumption) (by omega) ?_
      rw [hp]
      refine T_if_ge (pc := 47) (tgt := 54) dX10_toldOf_47 (by decide) (fun c47 => absurd c47 (by decide)) (fun c47 => ?_)
      refine G_iconst (pc := 50) (v := nI 0) dX10_toldOf_50 (by decide) ?_
      refine G_goto (pc := 51) (tgt := 55) dX10_toldOf_51 (by decide) ?_
      refine N_iadd (pc := 55) dX10_toldOf_55 ?_
      refine G_istore (pc := 56) dX10_toldOf_56 (by decide) rfl ?_
      refine N_iinc (pc := 58) dX10_toldOf_58 rfl (by decide) rfl ?_
      refine G_goto (pc := 61) (tgt := 8) dX10_toldOf_61 (by decide) ?_
      rw [← e1, ← e2]
      exact ih (k + 1) (by omega) h
set_option maxRecDepth 100000 in
set_option maxHeartbeats 4000000 in
theorem sX10_toldOf {a b w z : Nat} {ps : List Nat} (hka : kd a = (10, z)) (hz : Nat.ble z 65536 = true) (hb : b + 3 ≤ z) (hw : w ≤ 4) (hps : PrIs S a b ps) (hpc : ∀ p ∈ ps, isPc p) (h : Q (some (aI (tolP ps w))) (mk S)) : CT sc mX10_toldOf [aR a, aI (nI b), aI (nI w)] (mk S) Q := by
  refine S_of (by decide) rfl ?_
  show G sc mX10_toldOf 0 [some (aR a), some (aI (nI b)), some (aI (nI w)), none, none, none] [] (mk S) Q
  refine G_iconst (pc := 0) (v := nI 0) dX10_toldOf_0 (by decide) ?_
  refine G_istore_n (pc := 1) dX10_toldOf_1 rfl (by decide) rfl ?_
  refine G_iconst (pc := 2) (v := nI 0) dX10_toldOf_2 (by decide) ?_
  refine G_istore (pc := 3) dX10_toldOf_3 (by decide) rfl ?_
  refine G_iconst (pc := 5) (v := nI 0) dX10_toldOf_5 (by decide) ?_
  refine G_istore (pc := 6) dX10_toldOf_6 (by decide) rfl ?_
  exact toldOf_lp hka hz hb hw hps hpc 3 0 (by omega) h
set_option maxRecDepth 100000 in
set_option maxHeartbeats 4000000 in
theorem addKept_lp {a k z : Nat} (hk : k < 4) (hka : kd a = (10, z)) (hz : Nat.ble z 65536 = true) (hb : 3 ≤ z) (hao : ¬ a = 408) (hn : S.1 389 28 = nI k) :
    ∀ (d j : Nat), j + d = 3 → Q (some (aI (nI k))) (mk (upX (upR S 408 (3 * k) 3 (S.2.1 a)) 389 28 (nI (k + 1)))) →
      G sc mX10_addKept 13 [some (aR 389), some (aR a), some (aI (nI j))] [] (mk (upR S 408 (3 * k) j (S.2.1 a))) Q := by
  intro d
  induction d with
  | zero =>
    intro j hj h
    have e : j = 3 := by omega
    subst e
    refine G_iload_n (pc := 13) dX10_addKept_13 rfl rfl ?_
    refine G_iconst (pc := 14) (v := nI 3) dX10_addKept_14 (by decide) ?_
    refine N_icmp_ge (pc := 15) (tgt := 40) dX10_addKept_15 (by decide) (by omega) (fun c15 => ?_) (fun c15 => absurd c15 (by omega))
    refine G_aload_n (pc := 40) dX10_addKept_40 rfl rfl ?_
    refine G_dup (pc := 41) dX10_addKept_41 rfl ?_
    refine S_getI (pc := 42) dX10_addKept_42 fX10_281 rfl (by first | rfl | assumption) rfl ?_
    rw [show (upR S 408 (3 * k) 3 (S.2.1 a)).1 389 28 = nI k from hn]
    refine G_iconst (pc := 45) (v := nI 1) dX10_addKept_45 (by decide) ?_
    refine N_iadd (pc := 46) dX10_addKept_46 ?_
    refine S_putI (pc := 47) dX10_addKept_47 fX10_281 (by decide) rfl (by first | rfl | assumption) rfl ?_
    refine G_aload_n (pc := 50) dX10_addKept_50 rfl rfl ?_
    refine S_getI (pc := 51) dX10_addKept_51 fX10_281 rfl (by first | rfl | assumption) rfl ?_
    rw [show (upX (upR S 408 (3 * k) 3 (S.2.1 a)) 389 28 (nI (k + 1))).1 389 28 = nI (k + 1) from upX_s]
    refine G_iconst (pc := 54) (v := nI 1) dX10_addKept_54 (by decide) ?_
    refine N_isub (pc := 55) dX10_addKept_55 (by omega) ?_
    refine S_iret (pc := 56) dX10_addKept_56 rfl ?_
    exact q_i h (by rw [Nat.add_sub_cancel])
  | succ d ih =>
    intro j hj h
    refine G_iload_n (pc := 13) dX10_addKept_13 rfl rfl ?_
    refine G_iconst (pc := 14) (v := nI 3) dX10_addKept_14 (by decide) ?_
    refine N_icmp_ge (pc := 15) (tgt := 40) dX10_addKept_15 (by decide) (by omega) (fun c15 => absurd c15 (by omega)) (fun c15 => ?_)
    refine G_aload_n (pc := 18) dX10_addKept_18 rfl rfl ?_
    refine S_getR (pc := 19) (b := 408) dX10_addKept_19 fX10_65 rfl rfl (by first | rfl | assumption) rfl rfl ?_
    refine G_iconst (pc := 22) (v := nI 3) dX10_addKept_22 (by decide) ?_
    refine G_aload_n (pc := 23) dX10_addKept_23 rfl rfl ?_
    refine S_getI (pc := 24) dX10_addKept_24 fX10_281 rfl (by first | rfl | assumption) rfl ?_
    rw [show (upR S 408 (3 * k) j (S.2.1 a)).1 389 28 = nI k from hn]
    refine N_imul (pc := 27) dX10_addKept_27 ?_
    refine G_iload_n (pc := 28) dX10_addKept_28 rfl rfl ?_
    refine N_iadd (pc := 29) dX10_addKept_29 ?_
    refine G_aload_n (pc := 30) dX10_addKept_30 rfl rfl ?_
    refine G_iload_n (pc := 31) dX10_addKept_31 rfl rfl ?_
    refine N_iald (pc := 32) dX10_addKept_32 (by first | rfl | assumption) (by first | rfl | assumption) (by omega) ?_
    rw [show (upR S 408 (3 * k) j (S.2.1 a)).2.1 a j = S.2.1 a j from upR_n (by omega)]
    refine N_iast (pc := 33) dX10_addKept_33 (by first | rfl | assumption) (by first | rfl | assumption) (by omega) ?_
    rw [upR_s]
    refine N_iinc (pc := 34) dX10_addKept_34 rfl (by decide) rfl ?_
    refine G_goto (pc := 37) (tgt := 13) dX10_addKept_37 (by decide) ?_
    exact ih (j + 1) (by omega) h
set_option maxRecDepth 100000 in
set_option maxHeartbeats 4000000 in
theorem sX10_addKept {a k z : Nat} (hk : k ≤ 4) (hka : kd a = (10, z)) (hz : Nat.ble z 65536 = true) (hb : 3 ≤ z) (hao : ¬ a = 408) (hn : S.1 389 28 = nI k) (hfull : k = 4 → Q (some (aI (-3))) (mk S)) (hok : k < 4 → Q (some (aI (nI k))) (mk (upX (upR S 408 (3 * k) 3 (S.2.1 a)) 389 28 (nI (k + 1))))) : CT sc mX10_addKept [aR 389, aR a] (mk S) Q := by
  refine S_of (by decide) rfl ?_
  show G sc mX10_addKept 0 [some (aR 389), some (aR a), none] [] (mk S) Q
  refine G_aload_n (pc := 0) dX10_addKept_0 rfl rfl ?_
  refine S_getI (pc := 1) dX10_addKept_1 fX10_281 rfl (by first | rfl | assumption) rfl ?_
  rw [hn]
  refine G_iconst (pc := 4) (v := nI 4) dX10_addKept_4 (by decide) ?_
  refine N_icmp_ne (pc := 5) (tgt := 11) dX10_addKept_5 (by decide) (by omega) (fun c5 => ?_) (fun c5 => ?_)
  · skip
    refine G_iconst (pc := 11) (v := nI 0) dX10_addKept_11 (by decide) ?_
    refine G_istore_n (pc := 12) dX10_addKept_12 rfl (by decide) rfl ?_
    have e0 : mk S = mk (upR S 408 (3 * k) 0 (S.2.1 a)) := by rw [upR_0]
    rw [e0]
    exact addKept_lp (by omega) hka hz hb hao hn 3 0 (by omega) (hok (by omega))
  · skip
    refine G_bipush (pc := 8) (v := (-3)) dX10_addKept_8 (by decide) ?_
    refine S_iret (pc := 10) dX10_addKept_10 rfl ?_
    exact hfull (by omega)
set_option maxRecDepth 100000 in
set_option maxHeartbeats 4000000 in
theorem sX10_isKept {t : Int32} {n : Nat} (hn : S.1 389 28 = nI n) (hn2 : n < 1000) (h : Q (some (aI (bI (isTh n t)))) (mk S)) : CT sc mX10_isKept [aR 389, aI t] (mk S) Q := by
  refine S_of (by decide) rfl ?_
  show G sc mX10_isKept 0 [some (aR 389), some (aI t)] [] (mk S) Q
  refine G_iload_n (pc := 0) dX10_isKept_0 rfl rfl ?_
  refine G_i2l (pc := 1) dX10_isKept_1 ?_
  refine G_lconst (pc := 2) (v := 0) dX10_isKept_2 (by decide) ?_
  refine G_aload_n (pc := 3) dX10_isKept_3 rfl rfl ?_
  refine S_getI (pc := 4) dX10_isKept_4 fX10_281 rfl (by first | rfl | assumption) rfl ?_
  refine G_iconst (pc := 7) (v := nI 1) dX10_isKept_7 (by decide) ?_
  refine G_isub (pc := 8) dX10_isKept_8 ?_
  refine G_i2l (pc := 9) dX10_isKept_9 ?_
  refine S_callS (av := [_, _, _]) (pc := 10) (z := mX10_in) dX10_isKept_10 zX10_in lX10_isKept_84 rfl (sX10_in ⟨_, rfl, ?_⟩)
  refine S_zret (pc := 13) dX10_isKept_13 rfl (bI_nar _) ?_
  exact q_b h (dec_b (by rw [hn, Int32.toInt_toInt64, Int32.toInt_toInt64, nI_m1 (by omega)]; show (0 : Int) ≤ _ ∧ _ ↔ _; omega))
end M14
