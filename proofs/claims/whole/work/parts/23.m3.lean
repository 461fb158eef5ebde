/-! the model: byteOf, runOf, placeOf -/
theorem pl_a {b : Nat → Int32} {n p : Nat} (h : p < 8) : pl b n p = if p ≤ n then some p else none := by unfold pl; rw [if_pos h]
theorem pl_b {b : Nat → Int32} {n p : Nat} (h : 8 ≤ p ∧ p < 16) : pl b n p = if p - 8 ≤ n then some (n - (p - 8)) else none := by unfold pl; rw [if_neg (by omega), if_pos h.2]
theorem pl_c {b : Nat → Int32} {n p : Nat} (h : 16 ≤ p) : pl b n p = fnd ((p - 16) % 3) ((p - 16) / 3 % 2) (runs b n ((p - 16) / 6)) 0 none := by unfold pl; rw [if_neg (by omega), if_neg (by omega)]
section M3
variable {sc : SC} {S : ST} {Q : Option AV → HM → Prop}
set_option maxRecDepth 100000 in
set_option maxHeartbeats 4000000 in
theorem runOf_in {t k s w n : Nat} {F R V : Int32} (ht : t < 12) (hsz : S.2.1 391 t = nI n) (hn : n ≤ 16) (hk : k < 3) :
    ∀ (f i : Nat), n - i ≤ f → i ≤ n → G sc mX10_runOf 92 [some (aR 389), some (aI (nI t)), some (aI (nI k)), some (aI (nI s)), some (aI (nI w)), some (aI F), some (aI R), some (aI (nI (rend (fun j => S.2.1 390 (16 * t + j)) n k f i))), some (aI V), some (aI (bI true))] [] (mk S) Q →
      G sc mX10_runOf 46 [some (aR 389), some (aI (nI t)), some (aI (nI k)), some (aI (nI s)), some (aI (nI w)), some (aI F), some (aI R), some (aI (nI i)), some (aI V), some (aI (bI true))] [] (mk S) Q := by
  intro f
  induction f with
  | zero =>
    intro i h1 h2 h
    have e : i = n := by omega
    refine G_iload (pc := 46) dX10_runOf_46 rfl ?_
    refine B_if_eq (pc := 48) (tgt := 92) dX10_runOf_48 (by decide) (fun c48 => absurd c48 (by decide)) (fun c48 => ?_)
    refine G_iload_n (pc := 51) dX10_runOf_51 rfl rfl ?_
    refine G_iconst (pc := 52) (v := nI 3) dX10_runOf_52 (by decide) ?_
    refine N_icmp_eq (pc := 53) (tgt := 92) dX10_runOf_53 (by decide) (by omega) (fun c53 => absurd c53 (by omega)) (fun c53 => ?_)
    refine G_iload (pc := 56) dX10_runOf_56 rfl ?_
    refine G_aload_n (pc := 58) dX10_runOf_58 rfl rfl ?_
    refine S_getR (pc := 59) (b := 391) dX10_runOf_59 fX10_13 rfl rfl (by first | rfl | assumption) rfl rfl ?_
    refine G_iload_n (pc := 62) dX10_runOf_62 rfl rfl ?_
    refine N_iald (pc := 63) dX10_runOf_63 (by first | rfl | assumption) rfl (by omega) ?_
    rw [hsz]
    refine N_icmp_ge (pc := 64) (tgt := 92) dX10_runOf_64 (by decide) (by omega) (fun c64 => ?_) (fun c64 => absurd c64 (by omega))
    exact h
  | succ f ih =>
    intro i h1 h2 h
    refine G_iload (pc := 46) dX10_runOf_46 rfl ?_
    refine B_if_eq (pc := 48) (tgt := 92) dX10_runOf_48 (by decide) (fun c48 => absurd c48 (by decide)) (fun c48 => ?_)
    refine G_iload_n (pc := 51) dX10_runOf_51 rfl rfl ?_
    refine G_iconst (pc := 52) (v := nI 3) dX10_runOf_52 (by decide) ?_
    refine N_icmp_eq (pc := 53) (tgt := 92) dX10_runOf_53 (by decide) (by omega) (fun c53 => absurd c53 (by omega)) (fun c53 => ?_)
    refine G_iload (pc := 56) dX10_runOf_56 rfl ?_
    refine G_aload_n (pc := 58) dX10_runOf_58 rfl rfl ?_
    refine S_getR (pc := 59) (b := 391) dX10_runOf_59 fX10_13 rfl rfl (by first | rfl | assumption) rfl rfl ?_
    refine G_iload_n (pc := 62) dX10_runOf_62 rfl rfl ?_
    refine N_iald (pc := 63) dX10_runOf_63 (by first | rfl | assumption) rfl (by omega) ?_
    rw [hsz]
    refine N_icmp_ge (pc := 64) (tgt := 92) dX10_runOf_64 (by decide) (by omega) (fun c64 => ?_) (fun c64 => ?_)
    · skip
      rw [show rend (fun j => S.2.1 390 (16 * t + j)) n k (f + 1) i = i from by unfold rend; rw [if_neg (by omega)]] at h
      exact h
    · skip
      have c64 : i < n := by omega
      refine G_aload_n (pc := 67) dX10_runOf_67 rfl rfl ?_
      refine S_getR (pc := 68) (b := 390) dX10_runOf_68 fX10_7 rfl rfl (by first | rfl | assumption) rfl rfl ?_
      refine G_bipush (pc := 71) (v := nI 16) dX10_runOf_71 (by decide) ?_
      refine G_iload_n (pc := 73) dX10_runOf_73 rfl rfl ?_
      refine N_imul (pc := 74) dX10_runOf_74 ?_
      refine G_iload (pc := 75) dX10_runOf_75 rfl ?_
      refine N_iadd (pc := 77) dX10_runOf_77 ?_
      refine N_iald (pc := 78) dX10_runOf_78 (by first | rfl | assumption) rfl (by omega) ?_
      refine G_iload_n (pc := 79) dX10_runOf_79 rfl rfl ?_
      refine S_callS (av := [_, _]) (pc := 80) (z := mX10_isOf) dX10_runOf_80 zX10_isOf lX10_runOf_135 rfl (sX10_isOf (by omega) ⟨_, rfl, ?_⟩)
      refine B_if_eq (pc := 83) (tgt := 92) dX10_runOf_83 (by decide) (fun c83 => ?_) (fun c83 => ?_)
      · skip
        rw [show rend (fun j => S.2.1 390 (16 * t + j)) n k (f + 1) i = i from by unfold rend; rw [if_neg (by simp [c83])]] at h
        exact h
      · skip
        rw [show rend (fun j => S.2.1 390 (16 * t + j)) n k (f + 1) i = rend (fun j => S.2.1 390 (16 * t + j)) n k f (i + 1) from by conv => lhs; unfold rend; rw [if_pos ⟨c64, c83⟩]] at h
        refine N_iinc (pc := 86) dX10_runOf_86 rfl (by decide) rfl ?_
        refine G_goto (pc := 89) (tgt := 46) dX10_runOf_89 (by decide) ?_
        exact ih (i + 1) (by omega) (by omega) h
set_option maxRecDepth 100000 in
set_option maxHeartbeats 4000000 in
theorem runOf_out {t k s w n : Nat} (ht : t < 12) (hsz : S.2.1 391 t = nI n) (hn : n ≤ 16) (hk : k ≤ 3) (hs : s < 2) (hw : w < 3) :
    ∀ (f i r : Nat) (fd : Option Nat) (o8 o9 : Option AV), n - i ≤ f → i ≤ n → r ≤ i → Q (some (aI (oI (fnd w s (runsG (fun j => S.2.1 390 (16 * t + j)) n k f i) r fd)))) (mk S) →
      G sc mX10_runOf 10 [some (aR 389), some (aI (nI t)), some (aI (nI k)), some (aI (nI s)), some (aI (nI w)), some (aI (oI fd)), some (aI (nI r)), some (aI (nI i)), o8, o9] [] (mk S) Q := by
  intro f
  induction f with
  | zero =>
    intro i r fd o8 o9 h1 h2 hr h
    have e : i = n := by omega
    refine G_iload (pc := 10) dX10_runOf_10 rfl ?_
    refine G_aload_n (pc := 12) dX10_runOf_12 rfl rfl ?_
    refine S_getR (pc := 13) (b := 391) dX10_runOf_13 fX10_13 rfl rfl (by first | rfl | assumption) rfl rfl ?_
    refine G_iload_n (pc := 16) dX10_runOf_16 rfl rfl ?_
    refine N_iald (pc := 17) dX10_runOf_17 (by first | rfl | assumption) rfl (by omega) ?_
    rw [hsz]
    refine N_icmp_ge (pc := 18) (tgt := 134) dX10_runOf_18 (by decide) (by omega) (fun c18 => ?_) (fun c18 => absurd c18 (by omega))
    refine G_iload (pc := 134) dX10_runOf_134 rfl ?_
    refine S_iret (pc := 136) dX10_runOf_136 rfl ?_
    exact h
  | succ f ih =>
    intro i r fd o8 o9 h1 h2 hr h
    refine G_iload (pc := 10) dX10_runOf_10 rfl ?_
    refine G_aload_n (pc := 12) dX10_runOf_12 rfl rfl ?_
    refine S_getR (pc := 13) (b := 391) dX10_runOf_13 fX10_13 rfl rfl (by first | rfl | assumption) rfl rfl ?_
    refine G_iload_n (pc := 16) dX10_runOf_16 rfl rfl ?_
    refine N_iald (pc := 17) dX10_runOf_17 (by first | rfl | assumption) rfl (by omega) ?_
    rw [hsz]
    refine N_icmp_ge (pc := 18) (tgt := 134) dX10_runOf_18 (by decide) (by omega) (fun c18 => ?_) (fun c18 => ?_)
    · skip
      rw [show runsG (fun j => S.2.1 390 (16 * t + j)) n k (f + 1) i = [] from by unfold runsG; rw [if_neg (by omega)]] at h
      refine G_iload (pc := 134) dX10_runOf_134 rfl ?_
      refine S_iret (pc := 136) dX10_runOf_136 rfl ?_
      exact h
    · skip
      have c18 : i < n := by omega
      refine G_iload (pc := 21) dX10_runOf_21 rfl ?_
      refine G_istore (pc := 23) dX10_runOf_23 (by decide) rfl ?_
      refine G_aload_n (pc := 25) dX10_runOf_25 rfl rfl ?_
      refine S_getR (pc := 26) (b := 390) dX10_runOf_26 fX10_7 rfl rfl (by first | rfl | assumption) rfl rfl ?_
      refine G_bipush (pc := 29) (v := nI 16) dX10_runOf_29 (by decide) ?_
      refine G_iload_n (pc := 31) dX10_runOf_31 rfl rfl ?_
      refine N_imul (pc := 32) dX10_runOf_32 ?_
      refine G_iload (pc := 33) dX10_runOf_33 rfl ?_
      refine N_iadd (pc := 35) dX10_runOf_35 ?_
      refine N_iald (pc := 36) dX10_runOf_36 (by first | rfl | assumption) rfl (by omega) ?_
      refine G_iload_n (pc := 37) dX10_runOf_37 rfl rfl ?_
      refine S_callS (av := [_, _]) (pc := 38) (z := mX10_isOf) dX10_runOf_38 zX10_isOf lX10_runOf_135 rfl (sX10_isOf (by omega) ⟨_, rfl, ?_⟩)
      refine G_istore (pc := 41) dX10_runOf_41 (by decide) rfl ?_
      refine N_iinc (pc := 43) dX10_runOf_43 rfl (by decide) rfl ?_
      by_cases hb : isKd k (S.2.1 390 (16 * t + i)) = true
      · rw [hb]
        have e1 : runsG (fun j => S.2.1 390 (16 * t + j)) n k (f + 1) i = (i, rnx (fun j => S.2.1 390 (16 * t + j)) n k i) :: runsG (fun j => S.2.1 390 (16 * t + j)) n k f (rnx (fun j => S.2.1 390 (16 * t + j)) n k i) := by
          conv => lhs; unfold runsG
          rw [if_pos c18, if_pos hb]
        rw [e1] at h
        unfold fnd at h
        have g1 := rnx_gt (fun j => S.2.1 390 (16 * t + j)) n k i
        have g2 := rnx_le (fun j => S.2.1 390 (16 * t + j)) n k i c18
        have K : G sc mX10_runOf 92 [some (aR 389), some (aI (nI t)), some (aI (nI k)), some (aI (nI s)), some (aI (nI w)), some (aI (oI fd)), some (aI (nI r)), some (aI (nI (rnx (fun j => S.2.1 390 (16 * t + j)) n k i))), some (aI (nI i)), some (aI (bI true))] [] (mk S) Q := by
          generalize rnx (fun j => S.2.1 390 (16 * t + j)) n k i = e at h g1 g2 ⊢
          refine G_iload (pc := 92) dX10_runOf_92 rfl ?_
          refine B_if_eq (pc := 94) (tgt := 131) dX10_runOf_94 (by decide) (fun c94 => absurd c94 (by decide)) (fun c94 => ?_)
          refine G_iload (pc := 97) dX10_runOf_97 rfl ?_
          refine G_iconst (pc := 99) (v := nI 2) dX10_runOf_99 (by decide) ?_
          refine N_icmp_eq (pc := 100) (tgt := 110) dX10_runOf_100 (by decide) (by omega) (fun c100 => ?_) (fun c100 => ?_)
          · skip
            refine G_iload_n (pc := 110) dX10_runOf_110 rfl rfl ?_
            refine N_if_ne (pc := 111) (tgt := 119) dX10_runOf_111 (by decide) (by omega) (fun c111 => ?_) (fun c111 => ?_)
            · skip
              refine G_iload (pc := 119) dX10_runOf_119 rfl ?_
              refine G_goto (pc := 121) (tgt := 126) dX10_runOf_121 (by decide) ?_
              refine G_istore (pc := 126) dX10_runOf_126 (by decide) rfl ?_
              refine N_iinc (pc := 128) dX10_runOf_128 rfl (by decide) rfl ?_
              refine G_goto (pc := 131) (tgt := 10) dX10_runOf_131 (by decide) ?_
              first | exact ih e (r + 1) (some e) _ _ (by omega) (by omega) (by omega) (by simpa [*] using h) | exact ih e (r + 1) (some i) _ _ (by omega) (by omega) (by omega) (by simpa [*] using h) | exact ih e (r + 1) fd _ _ (by omega) (by omega) (by omega) (by simpa [*] using h)
            · skip
              refine G_iload (pc := 114) dX10_runOf_114 rfl ?_
              refine G_goto (pc := 116) (tgt := 126) dX10_runOf_116 (by decide) ?_
              refine G_istore (pc := 126) dX10_runOf_126 (by decide) rfl ?_
              refine N_iinc (pc := 128) dX10_runOf_128 rfl (by decide) rfl ?_
              refine G_goto (pc := 131) (tgt := 10) dX10_runOf_131 (by decide) ?_
              first | exact ih e (r + 1) (some e) _ _ (by omega) (by omega) (by omega) (by simpa [*] using h) | exact ih e (r + 1) (some i) _ _ (by omega) (by omega) (by omega) (by simpa [*] using h) | exact ih e (r + 1) fd _ _ (by omega) (by omega) (by omega) (by simpa [*] using h)
          · skip
            refine G_iload (pc := 103) dX10_runOf_103 rfl ?_
            refine G_iload (pc := 105) dX10_runOf_105 rfl ?_
            refine N_icmp_ne (pc := 107) (tgt := 124) dX10_runOf_107 (by decide) (by omega) (fun c107 => ?_) (fun c107 => ?_)
            · skip
              refine G_iload (pc := 124) dX10_runOf_124 rfl ?_
              refine G_istore (pc := 126) dX10_runOf_126 (by decide) rfl ?_
              refine N_iinc (pc := 128) dX10_runOf_128 rfl (by decide) rfl ?_
              refine G_goto (pc := 131) (tgt := 10) dX10_runOf_131 (by decide) ?_
              first | exact ih e (r + 1) (some e) _ _ (by omega) (by omega) (by omega) (by simpa [*] using h) | exact ih e (r + 1) (some i) _ _ (by omega) (by omega) (by omega) (by simpa [*] using h) | exact ih e (r + 1) fd _ _ (by omega) (by omega) (by omega) (by simpa [*] using h)
            · skip
              refine G_iload_n (pc := 110) dX10_runOf_110 rfl rfl ?_
              refine N_if_ne (pc := 111) (tgt := 119) dX10_runOf_111 (by decide) (by omega) (fun c111 => ?_) (fun c111 => ?_)
              · skip
                refine G_iload (pc := 119) dX10_runOf_119 rfl ?_
                refine G_goto (pc := 121) (tgt := 126) dX10_runOf_121 (by decide) ?_
                refine G_istore (pc := 126) dX10_runOf_126 (by decide) rfl ?_
                refine N_iinc (pc := 128) dX10_runOf_128 rfl (by decide) rfl ?_
                refine G_goto (pc := 131) (tgt := 10) dX10_runOf_131 (by decide) ?_
                first | exact ih e (r + 1) (some e) _ _ (by omega) (by omega) (by omega) (by simpa [*] using h) | exact ih e (r + 1) (some i) _ _ (by omega) (by omega) (by omega) (by simpa [*] using h) | exact ih e (r + 1) fd _ _ (by omega) (by omega) (by omega) (by simpa [*] using h)
              · skip
                refine G_iload (pc := 114) dX10_runOf_114 rfl ?_
                refine G_goto (pc := 116) (tgt := 126) dX10_runOf_116 (by decide) ?_
                refine G_istore (pc := 126) dX10_runOf_126 (by decide) rfl ?_
                refine N_iinc (pc := 128) dX10_runOf_128 rfl (by decide) rfl ?_
                refine G_goto (pc := 131) (tgt := 10) dX10_runOf_131 (by decide) ?_
                first | exact ih e (r + 1) (some e) _ _ (by omega) (by omega) (by omega) (by simpa [*] using h) | exact ih e (r + 1) (some i) _ _ (by omega) (by omega) (by omega) (by simpa [*] using h) | exact ih e (r + 1) fd _ _ (by omega) (by omega) (by omega) (by simpa [*] using h)
        by_cases hk3 : k = 3
        · subst hk3
          have e2 : rnx (fun j => S.2.1 390 (16 * t + j)) n 3 i = i + 1 := rfl
          rw [e2] at K
          refine G_iload (pc := 46) dX10_runOf_46 rfl ?_
          refine B_if_eq (pc := 48) (tgt := 92) dX10_runOf_48 (by decide) (fun c48 => absurd c48 (by decide)) (fun c48 => ?_)
          refine G_iload_n (pc := 51) dX10_runOf_51 rfl rfl ?_
          refine G_iconst (pc := 52) (v := nI 3) dX10_runOf_52 (by decide) ?_
          refine N_icmp_eq (pc := 53) (tgt := 92) dX10_runOf_53 (by decide) (by omega) (fun c53 => ?_) (fun c53 => absurd c53 (by omega))
          exact K
        · have e2 : rnx (fun j => S.2.1 390 (16 * t + j)) n k i = rend (fun j => S.2.1 390 (16 * t + j)) n k n (i + 1) := by unfold rnx; rw [if_neg hk3]
          rw [e2] at K
          exact runOf_in ht hsz hn (by omega) n (i + 1) (by omega) (by omega) K
      · have hb : isKd k (S.2.1 390 (16 * t + i)) = false := by simpa using hb
        rw [hb]
        have e1 : runsG (fun j => S.2.1 390 (16 * t + j)) n k (f + 1) i = runsG (fun j => S.2.1 390 (16 * t + j)) n k f (i + 1) := by
          conv => lhs; unfold runsG
          rw [if_pos c18, if_neg (by simp [hb])]
        rw [e1] at h
        refine G_iload (pc := 46) dX10_runOf_46 rfl ?_
        refine B_if_eq (pc := 48) (tgt := 92) dX10_runOf_48 (by decide) (fun c48 => ?_) (fun c48 => absurd c48 (by decide))
        refine G_iload (pc := 92) dX10_runOf_92 rfl ?_
        refine B_if_eq (pc := 94) (tgt := 131) dX10_runOf_94 (by decide) (fun c94 => ?_) (fun c94 => absurd c94 (by decide))
        refine G_goto (pc := 131) (tgt := 10) dX10_runOf_131 (by decide) ?_
        exact ih (i + 1) r fd _ _ (by omega) (by omega) (by omega) h
set_option maxRecDepth 100000 in
set_option maxHeartbeats 4000000 in
theorem sX10_runOf {t k s w n : Nat} (ht : t < 12) (hsz : S.2.1 391 t = nI n) (hn : n ≤ 16) (hk : k ≤ 3) (hs : s < 2) (hw : w < 3) (h : Q (some (aI (oI (fnd w s (runs (fun j => S.2.1 390 (16 * t + j)) n k) 0 none)))) (mk S)) : CT sc mX10_runOf [aR 389, aI (nI t), aI (nI k), aI (nI s), aI (nI w)] (mk S) Q := by
  refine S_of (by decide) rfl ?_
  show G sc mX10_runOf 0 [some (aR 389), some (aI (nI t)), some (aI (nI k)), some (aI (nI s)), some (aI (nI w)), none, none, none, none, none] [] (mk S) Q
  refine G_bipush (pc := 0) (v := (-4)) dX10_runOf_0 (by decide) ?_
  refine G_istore (pc := 2) dX10_runOf_2 (by decide) rfl ?_
  refine G_iconst (pc := 4) (v := nI 0) dX10_runOf_4 (by decide) ?_
  refine G_istore (pc := 5) dX10_runOf_5 (by decide) rfl ?_
  refine G_iconst (pc := 7) (v := nI 0) dX10_runOf_7 (by decide) ?_
  refine G_istore (pc := 8) dX10_runOf_8 (by decide) rfl ?_
  exact runOf_out ht hsz hn hk hs hw n 0 0 none _ _ (by omega) (by omega) (by omega) h
set_option maxRecDepth 100000 in
set_option maxHeartbeats 4000000 in
theorem sX10_placeOf {t p n : Nat} (ht : t < 12) (hsz : S.2.1 391 t = nI n) (hn : n ≤ 16) (hp : p < 40) (h : Q (some (aI (oI (pl (fun j => S.2.1 390 (16 * t + j)) n p)))) (mk S)) : CT sc mX10_placeOf [aR 389, aI (nI t), aI (nI p)] (mk S) Q := by
  refine S_of (by decide) rfl ?_
  show G sc mX10_placeOf 0 [some (aR 389), some (aI (nI t)), some (aI (nI p)), none] [] (mk S) Q
  have e8 : ∀ q : Nat, (nI 8).toInt = 8 := fun _ => rfl
  refine G_iload_n (pc := 0) dX10_placeOf_0 rfl rfl ?_
  refine G_bipush (pc := 1) (v := nI 16) dX10_placeOf_1 (by decide) ?_
  refine N_icmp_ge (pc := 3) (tgt := 51) dX10_placeOf_3 (by decide) (by omega) (fun c3 => ?_) (fun c3 => ?_)
  · skip
    refine G_iload_n (pc := 51) dX10_placeOf_51 rfl rfl ?_
    refine G_bipush (pc := 52) (v := nI 16) dX10_placeOf_52 (by decide) ?_
    refine N_isub (pc := 54) dX10_placeOf_54 (by omega) ?_
    refine G_istore_n (pc := 55) dX10_placeOf_55 rfl (by decide) rfl ?_
    refine G_aload_n (pc := 56) dX10_placeOf_56 rfl rfl ?_
    refine G_iload_n (pc := 57) dX10_placeOf_57 rfl rfl ?_
    refine G_iload_n (pc := 58) dX10_placeOf_58 rfl rfl ?_
    refine G_bipush (pc := 59) (v := nI 6) dX10_placeOf_59 (by decide) ?_
    refine N_idiv (pc := 61) dX10_placeOf_61 (by omega) ?_
    refine G_iload_n (pc := 62) dX10_placeOf_62 rfl rfl ?_
    refine G_iconst (pc := 63) (v := nI 3) dX10_placeOf_63 (by decide) ?_
    refine N_idiv (pc := 64) dX10_placeOf_64 (by omega) ?_
    refine G_iconst (pc := 65) (v := nI 2) dX10_placeOf_65 (by decide) ?_
    refine N_irem (pc := 66) dX10_placeOf_66 (by omega) ?_
    refine G_iload_n (pc := 67) dX10_placeOf_67 rfl rfl ?_
    refine G_iconst (pc := 68) (v := nI 3) dX10_placeOf_68 (by decide) ?_
    refine N_irem (pc := 69) dX10_placeOf_69 (by omega) ?_
    refine S_callV (av := [_, _, _, _]) (pc := 70) (z := mX10_runOf) (ci := 9) dX10_placeOf_70 zX10_runOf lX10_placeOf_139 rfl (by first | rfl | assumption) rfl rfl (sX10_runOf ht hsz hn (by omega) (by omega) (by omega) ⟨_, rfl, ?_⟩)
    refine S_iret (pc := 73) dX10_placeOf_73 rfl ?_
    exact q_i h (by rw [pl_c (by omega)])
  · skip
    refine G_iload_n (pc := 6) dX10_placeOf_6 rfl rfl ?_
    refine G_bipush (pc := 7) (v := nI 8) dX10_placeOf_7 (by decide) ?_
    refine N_icmp_ge (pc := 9) (tgt := 16) dX10_placeOf_9 (by decide) (by omega) (fun c9 => ?_) (fun c9 => ?_)
    · skip
      refine G_aload_n (pc := 16) dX10_placeOf_16 rfl rfl ?_
      refine S_getR (pc := 17) (b := 391) dX10_placeOf_17 fX10_13 rfl rfl (by first | rfl | assumption) rfl rfl ?_
      refine G_iload_n (pc := 20) dX10_placeOf_20 rfl rfl ?_
      refine N_iald (pc := 21) dX10_placeOf_21 (by first | rfl | assumption) rfl (by omega) ?_
      rw [hsz]
      refine G_iload_n (pc := 22) dX10_placeOf_22 rfl rfl ?_
      refine G_bipush (pc := 23) (v := nI 8) dX10_placeOf_23 (by decide) ?_
      refine N_isub (pc := 25) dX10_placeOf_25 (by omega) ?_
      refine G_isub (pc := 26) dX10_placeOf_26 ?_
      refine G_istore_n (pc := 27) dX10_placeOf_27 rfl (by decide) rfl ?_
      refine G_iload_n (pc := 28) dX10_placeOf_28 rfl rfl ?_
      refine G_i2l (pc := 29) dX10_placeOf_29 ?_
      refine G_lconst (pc := 30) (v := 0) dX10_placeOf_30 (by decide) ?_
      refine G_aload_n (pc := 31) dX10_placeOf_31 rfl rfl ?_
      refine S_getR (pc := 32) (b := 391) dX10_placeOf_32 fX10_13 rfl rfl (by first | rfl | assumption) rfl rfl ?_
      refine G_iload_n (pc := 35) dX10_placeOf_35 rfl rfl ?_
      refine N_iald (pc := 36) dX10_placeOf_36 (by first | rfl | assumption) rfl (by omega) ?_
      rw [hsz]
      refine G_i2l (pc := 37) dX10_placeOf_37 ?_
      refine S_callS (av := [_, _, _]) (pc := 38) (z := mX10_in) dX10_placeOf_38 zX10_in lX10_placeOf_84 rfl (sX10_in ⟨_, rfl, ?_⟩)
      refine B_if_eq (pc := 41) (tgt := 48) dX10_placeOf_41 (by decide) (fun c41 => ?_) (fun c41 => ?_)
      · skip
        rw [decide_eq_false_iff_not, Int32.toInt_toInt64, Int32.toInt_toInt64, nIt (show n < 2147483648 by omega)] at c41
        have z0 : (0 : Int64).toInt = 0 := rfl
        rw [z0] at c41
        first | rw [nIt (show p < 2147483648 by omega)] at c41 | rw [pk_sub_toInt (by omega) (by omega)] at c41
        refine G_bipush (pc := 48) (v := (-4)) dX10_placeOf_48 (by decide) ?_
        refine S_iret (pc := 50) dX10_placeOf_50 rfl ?_
        first
          | exact q_i h (by rw [pl_a (by omega), if_neg (by omega)]; rfl)
          | exact q_i h (by rw [pl_a (by omega), if_pos (by omega)]; rfl)
          | exact q_i h (by rw [pl_b (by omega), if_neg (by omega)]; rfl)
          | exact q_i h (by rw [pl_b (by omega), if_pos (by omega), pk_sub (by omega)]; rfl)
      · skip
        rw [decide_eq_true_iff, Int32.toInt_toInt64, Int32.toInt_toInt64, nIt (show n < 2147483648 by omega)] at c41
        have z0 : (0 : Int64).toInt = 0 := rfl
        rw [z0] at c41
        first | rw [nIt (show p < 2147483648 by omega)] at c41 | rw [pk_sub_toInt (by omega) (by omega)] at c41
        refine G_iload_n (pc := 44) dX10_placeOf_44 rfl rfl ?_
        refine G_goto (pc := 45) (tgt := 50) dX10_placeOf_45 (by decide) ?_
        refine S_iret (pc := 50) dX10_placeOf_50 rfl ?_
        first
          | exact q_i h (by rw [pl_a (by omega), if_neg (by omega)]; rfl)
          | exact q_i h (by rw [pl_a (by omega), if_pos (by omega)]; rfl)
          | exact q_i h (by rw [pl_b (by omega), if_neg (by omega)]; rfl)
          | exact q_i h (by rw [pl_b (by omega), if_pos (by omega), pk_sub (by omega)]; rfl)
    · skip
      refine G_iload_n (pc := 12) dX10_placeOf_12 rfl rfl ?_
      refine G_goto (pc := 13) (tgt := 27) dX10_placeOf_13 (by decide) ?_
      refine G_istore_n (pc := 27) dX10_placeOf_27 rfl (by decide) rfl ?_
      refine G_iload_n (pc := 28) dX10_placeOf_28 rfl rfl ?_
      refine G_i2l (pc := 29) dX10_placeOf_29 ?_
      refine G_lconst (pc := 30) (v := 0) dX10_placeOf_30 (by decide) ?_
      refine G_aload_n (pc := 31) dX10_placeOf_31 rfl rfl ?_
      refine S_getR (pc := 32) (b := 391) dX10_placeOf_32 fX10_13 rfl rfl (by first | rfl | assumption) rfl rfl ?_
      refine G_iload_n (pc := 35) dX10_placeOf_35 rfl rfl ?_
      refine N_iald (pc := 36) dX10_placeOf_36 (by first | rfl | assumption) rfl (by omega) ?_
      rw [hsz]
      refine G_i2l (pc := 37) dX10_placeOf_37 ?_
      refine S_callS (av := [_, _, _]) (pc := 38) (z := mX10_in) dX10_placeOf_38 zX10_in lX10_placeOf_84 rfl (sX10_in ⟨_, rfl, ?_⟩)
      refine B_if_eq (pc := 41) (tgt := 48) dX10_placeOf_41 (by decide) (fun c41 => ?_) (fun c41 => ?_)
      · skip
        rw [decide_eq_false_iff_not, Int32.toInt_toInt64, Int32.toInt_toInt64, nIt (show n < 2147483648 by omega)] at c41
        have z0 : (0 : Int64).toInt = 0 := rfl
        rw [z0] at c41
        first | rw [nIt (show p < 2147483648 by omega)] at c41 | rw [pk_sub_toInt (by omega) (by omega)] at c41
        refine G_bipush (pc := 48) (v := (-4)) dX10_placeOf_48 (by decide) ?_
        refine S_iret (pc := 50) dX10_placeOf_50 rfl ?_
        first
          | exact q_i h (by rw [pl_a (by omega), if_neg (by omega)]; rfl)
          | exact q_i h (by rw [pl_a (by omega), if_pos (by omega)]; rfl)
          | exact q_i h (by rw [pl_b (by omega), if_neg (by omega)]; rfl)
          | exact q_i h (by rw [pl_b (by omega), if_pos (by omega), pk_sub (by omega)]; rfl)
      · skip
        rw [decide_eq_true_iff, Int32.toInt_toInt64, Int32.toInt_toInt64, nIt (show n < 2147483648 by omega)] at c41
        have z0 : (0 : Int64).toInt = 0 := rfl
        rw [z0] at c41
        first | rw [nIt (show p < 2147483648 by omega)] at c41 | rw [pk_sub_toInt (by omega) (by omega)] at c41
        refine G_iload_n (pc := 44) dX10_placeOf_44 rfl rfl ?_
        refine G_goto (pc := 45) (tgt := 50) dX10_placeOf_45 (by decide) ?_
        refine S_iret (pc := 50) dX10_placeOf_50 rfl ?_
        first
          | exact q_i h (by rw [pl_a (by omega), if_neg (by omega)]; rfl)
          | exact q_i h (by rw [pl_a (by omega), if_pos (by omega)]; rfl)
          | exact q_i h (by rw [pl_b (by omega), if_neg (by omega)]; rfl)
          | exact q_i h (by rw [pl_b (by omega), if_pos (by omega), pk_sub (by omega)]; rfl)
end M3
