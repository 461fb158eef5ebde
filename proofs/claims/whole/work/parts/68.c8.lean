/-! the class: Fit.typedIn -/
theorem at_n : ∀ j : Nat, j < 3 → ∀ q : Nat, q < 4 → 3 ≤ j + q → nI j - nI 3 + nI q = nI (j + q - 3) := by decide
theorem at_neg : ∀ j : Nat, j < 3 → ∀ q : Nat, q < 4 → j + q < 3 → (nI j - nI 3 + nI q).toInt < 0 := by decide
/-- the byte that typedIn takes at its step j -/
def btN (S : ST) (t f q j : Nat) : Nat := if j + q < 3 then 0 else (enB S t (f + (j + q - 3))).toNatClampNeg
theorem btN_le {S : ST} {t f q j : Nat} (hf : f + q ≤ esN S t) (hj : j < 3) (hby : ∀ j, j < esN S t → isBy (enB S t j)) : btN S t f q j ≤ 126 := by
  unfold btN
  split
  · omega
  · exact (isBy_n (hby _ (by omega))).2.2
theorem typN_3 {S : ST} {t f q : Nat} (hq : 1 ≤ q ∧ q ≤ 3) : ((q * 2 ^ 8 + btN S t f q 0) * 2 ^ 8 + btN S t f q 1) * 2 ^ 8 + btN S t f q 2 = typN S t f q 0 (q * 16777216) := by
  rcases (show q = 1 ∨ q = 2 ∨ q = 3 by omega) with rfl | rfl | rfl
  · simp only [btN, typN]
    simp
  · simp only [btN, typN]
    simp
    try omega
  · simp only [btN, typN]
    simp
    try omega
def cmI : Nat → Nat → Int32
  | 0, _ => -4
  | _ + 1, f => nI f
theorem cm_pos {k f : Nat} (h : ¬ k = 0) : cmI k f = nI f := by
  cases k with
  | zero => exact absurd rfl h
  | succ k => rfl
section C8
variable {sc : SC} {S : ST} {Q : Option AV → HM → Prop}
set_option maxRecDepth 100000 in
set_option maxHeartbeats 4000000 in
theorem typedIn_st {S0 : ST} {st q k t f P j : Nat} {x : Int32} {o9 : Option AV} (ht : t < 12) (hq : 1 ≤ q ∧ q ≤ 3) (hf : f + q ≤ esN S0 t) (hes : esN S0 t ≤ 12) (he : EnIs S (289 + 7 * t) (enB S0 t) (esN S0 t)) (hby : ∀ j, j < esN S0 t → isBy (enB S0 t j)) (hj : j < 3) (hP : P < 1048576)
    (K : ∀ o9 : Option AV, G sc mX0_typedIn 59 [some (aR 6), some (aI (nI st)), some (aI (nI q)), some (aI x), some (aI (nI k)), some (aR (289 + 7 * t + 4)), some (aI (nI f)), some (aI (nI (P * 2 ^ 8 + btN S0 t f q j))), some (aI (nI (j + 1))), o9] [] (mk S) Q) :
    G sc mX0_typedIn 59 [some (aR 6), some (aI (nI st)), some (aI (nI q)), some (aI x), some (aI (nI k)), some (aR (289 + 7 * t + 4)), some (aI (nI f)), some (aI (nI P)), some (aI (nI j)), o9] [] (mk S) Q := by
  obtain ⟨k0, k1, k2, k3, k4, k5, k6⟩ := ThK_t t ht
  by_cases hlt : j + q < 3
  · have hneg := at_neg j hj q (by omega) hlt
    unfold btN at K
    rw [if_pos hlt] at K
    refine G_iload (pc := 59) dX0_typedIn_59 rfl ?_
    refine G_iconst (pc := 61) (v := nI 3) dX0_typedIn_61 (by decide) ?_
    refine N_icmp_ge (pc := 62) (tgt := 107) dX0_typedIn_62 (by decide) (by omega) (fun c62 => absurd c62 (by omega)) (fun c62 => ?_)
    refine G_iload (pc := 65) dX0_typedIn_65 rfl ?_
    refine G_iconst (pc := 67) (v := nI 3) dX0_typedIn_67 (by decide) ?_
    refine G_isub (pc := 68) dX0_typedIn_68 ?_
    refine G_iload_n (pc := 69) dX0_typedIn_69 rfl rfl ?_
    refine G_iadd (pc := 70) dX0_typedIn_70 ?_
    refine G_istore (pc := 71) dX0_typedIn_71 (by decide) rfl ?_
    refine G_iload (pc := 73) dX0_typedIn_73 rfl ?_
    refine G_bipush (pc := 75) (v := nI 8) dX0_typedIn_75 (by decide) ?_
    refine G_ishl (pc := 77) dX0_typedIn_77 ?_
    rw [shlN (by omega) (by omega)]
    refine G_iload (pc := 78) dX0_typedIn_78 rfl ?_
    refine T_if_ge (pc := 80) (tgt := 87) dX0_typedIn_80 (by decide) (fun c80 => absurd c80 (by omega)) (fun c80 => ?_)
    refine G_iconst (pc := 83) (v := nI 0) dX0_typedIn_83 (by decide) ?_
    refine G_goto (pc := 84) (tgt := 98) dX0_typedIn_84 (by decide) ?_
    refine G_ior (pc := 98) dX0_typedIn_98 ?_
    rw [orM (k := 8) _ (by omega)]
    refine G_istore (pc := 99) dX0_typedIn_99 (by decide) rfl ?_
    refine N_iinc (pc := 101) dX0_typedIn_101 rfl (by decide) rfl ?_
    refine G_goto (pc := 104) (tgt := 59) dX0_typedIn_104 (by decide) ?_
    exact K _
  · have hat := at_n j hj q (by omega) (by omega)
    unfold btN at K
    rw [if_neg hlt] at K
    have hb := isBy_n (hby (f + (j + q - 3)) (by omega))
    have hv : S.2.1 (289 + 7 * t + 4 + 1) (f + (j + q - 3)) = nI (enB S0 t (f + (j + q - 3))).toNatClampNeg := (he.2 _ (by omega)).trans hb.1
    refine G_iload (pc := 59) dX0_typedIn_59 rfl ?_
    refine G_iconst (pc := 61) (v := nI 3) dX0_typedIn_61 (by decide) ?_
    refine N_icmp_ge (pc := 62) (tgt := 107) dX0_typedIn_62 (by decide) (by omega) (fun c62 => absurd c62 (by omega)) (fun c62 => ?_)
    refine G_iload (pc := 65) dX0_typedIn_65 rfl ?_
    refine G_iconst (pc := 67) (v := nI 3) dX0_typedIn_67 (by decide) ?_
    refine G_isub (pc := 68) dX0_typedIn_68 ?_
    refine G_iload_n (pc := 69) dX0_typedIn_69 rfl rfl ?_
    refine G_iadd (pc := 70) dX0_typedIn_70 ?_
    rw [hat]
    refine G_istore (pc := 71) dX0_typedIn_71 (by decide) rfl ?_
    refine G_iload (pc := 73) dX0_typedIn_73 rfl ?_
    refine G_bipush (pc := 75) (v := nI 8) dX0_typedIn_75 (by decide) ?_
    refine G_ishl (pc := 77) dX0_typedIn_77 ?_
    rw [shlN (by omega) (by omega)]
    refine G_iload (pc := 78) dX0_typedIn_78 rfl ?_
    refine N_if_ge (pc := 80) (tgt := 87) dX0_typedIn_80 (by decide) (by omega) ?_
    refine G_aload (pc := 87) dX0_typedIn_87 rfl ?_
    refine S_getR (pc := 89) (b := 289 + 7 * t + 4 + 1) dX0_typedIn_89 fX0_127 rfl rfl (by first | rfl | assumption) rfl rfl ?_
    refine G_iload (pc := 92) dX0_typedIn_92 rfl ?_
    refine G_iload (pc := 94) dX0_typedIn_94 rfl ?_
    refine N_iadd (pc := 96) dX0_typedIn_96 ?_
    refine N_bald (pc := 97) dX0_typedIn_97 (by first | rfl | assumption) (by first | rfl | assumption) (by omega) ?_
    rw [hv]
    refine G_ior (pc := 98) dX0_typedIn_98 ?_
    rw [orM (k := 8) _ (by omega)]
    refine G_istore (pc := 99) dX0_typedIn_99 (by decide) rfl ?_
    refine N_iinc (pc := 101) dX0_typedIn_101 rfl (by decide) rfl ?_
    refine G_goto (pc := 104) (tgt := 59) dX0_typedIn_104 (by decide) ?_
    exact K _
set_option maxRecDepth 100000 in
set_option maxHeartbeats 4000000 in
theorem typedIn_lp {S0 : ST} {st q z : Nat} (hst : st < 65536) (hq : 1 ≤ q ∧ q ≤ 3) (hz : z ≤ 4) (hz0 : 0 < z) (hc : S.1 6 1 = nI z) :
    ∀ (r : List Nat) (k first : Nat) (o5 o6 o7 o8 o9 : Option AV), k + r.length = z → (∀ i, i < r.length → S.2.2 (k + i) = some (289 + 7 * r.getD i 0)) → (∀ t ∈ r, t < 12 ∧ EnIs S (289 + 7 * t) (enB S0 t) (esN S0 t) ∧ esN S0 t ≤ 12 ∧ ∀ j, j < esN S0 t → isBy (enB S0 t j)) → first < 67108864 →
      Q (some (aI (oI (typG S0 st q r k first)))) (mk S) → G sc mX0_typedIn 6 [some (aR 6), some (aI (nI st)), some (aI (nI q)), some (aI (cmI k first)), some (aI (nI k)), o5, o6, o7, o8, o9] [] (mk S) Q := by
  intro r
  induction r with
  | nil =>
    intro k first o5 o6 o7 o8 o9 hk _ _ _ h
    have hk : k + 0 = z := hk
    refine G_iload (pc := 6) dX0_typedIn_6 rfl ?_
    refine G_aload_n (pc := 8) dX0_typedIn_8 rfl rfl ?_
    refine S_getI (pc := 9) dX0_typedIn_9 fX0_17 rfl (by first | rfl | assumption) rfl ?_
    rw [hc]
    refine N_icmp_ge (pc := 12) (tgt := 130) dX0_typedIn_12 (by decide) (by omega) (fun c12 => ?_) (fun c12 => absurd c12 (by omega))
    refine G_iload_n (pc := 130) dX0_typedIn_130 rfl rfl ?_
    refine S_iret (pc := 131) dX0_typedIn_131 rfl ?_
    exact q_i h (cm_pos (by omega))
  | cons t r ih =>
    intro k first o5 o6 o7 o8 o9 hk hs ht hfi h
    have hk : k + (r.length + 1) = z := hk
    obtain ⟨t1, he, t3, t4⟩ := ht t List.mem_cons_self
    obtain ⟨k0, k1, k2, k3, k4, k5, k6⟩ := ThK_t t t1
    have hsk : S.2.2 k = some (289 + 7 * t) := hs 0 (by simp)
    have hnl := nib_lt st k
    have e0 : typG S0 st q (t :: r) k first = (if nib st k + q ≤ esN S0 t then (if 0 < k ∧ ¬ typN S0 t (nib st k) q 0 (q * 16777216) = first then none else typG S0 st q r (k + 1) (typN S0 t (nib st k) q 0 (q * 16777216))) else none) := rfl
    rw [e0] at h
    refine G_iload (pc := 6) dX0_typedIn_6 rfl ?_
    refine G_aload_n (pc := 8) dX0_typedIn_8 rfl rfl ?_
    refine S_getI (pc := 9) dX0_typedIn_9 fX0_17 rfl (by first | rfl | assumption) rfl ?_
    rw [hc]
    refine N_icmp_ge (pc := 12) (tgt := 130) dX0_typedIn_12 (by decide) (by omega) (fun c12 => absurd c12 (by omega)) (fun c12 => ?_)
    refine G_aload_n (pc := 15) dX0_typedIn_15 rfl rfl ?_
    refine S_getR (pc := 16) (b := 7) dX0_typedIn_16 fX0_11 rfl rfl (by first | rfl | assumption) rfl rfl ?_
    refine G_iload (pc := 19) dX0_typedIn_19 rfl ?_
    refine N_aald (pc := 21) (t := 3) (n := 4) (b := 289 + 7 * t) dX0_typedIn_21 (by first | rfl | assumption) (by first | rfl | assumption) (by decide) (by omega) hsk ?_
    refine S_getR (pc := 22) (b := 289 + 7 * t + 4) dX0_typedIn_22 fX0_79 rfl rfl (by first | rfl | assumption) rfl rfl ?_
    refine G_astore (pc := 25) dX0_typedIn_25 (by decide) rfl ?_
    refine G_iload_n (pc := 27) dX0_typedIn_27 rfl rfl ?_
    refine G_iconst (pc := 28) (v := nI 4) dX0_typedIn_28 (by decide) ?_
    refine G_iload (pc := 29) dX0_typedIn_29 rfl ?_
    refine N_imul (pc := 31) dX0_typedIn_31 ?_
    refine G_ishr (pc := 32) dX0_typedIn_32 ?_
    refine G_bipush (pc := 33) (v := nI 15) dX0_typedIn_33 (by decide) ?_
    refine G_iand (pc := 35) dX0_typedIn_35 ?_
    rw [nibE (by omega) (by omega)]
    refine G_istore (pc := 36) dX0_typedIn_36 (by decide) rfl ?_
    refine G_iload (pc := 38) dX0_typedIn_38 rfl ?_
    refine G_iload_n (pc := 40) dX0_typedIn_40 rfl rfl ?_
    refine N_iadd (pc := 41) dX0_typedIn_41 ?_
    refine G_aload (pc := 42) dX0_typedIn_42 rfl ?_
    refine S_getI (pc := 44) dX0_typedIn_44 fX0_83 rfl (by first | rfl | assumption) rfl ?_
    rw [he.1]
    refine N_icmp_le (pc := 47) (tgt := 53) dX0_typedIn_47 (by decide) (by omega) (fun c47 => ?_) (fun c47 => ?_)
    · skip
      rw [if_pos c47] at h
      refine G_iload_n (pc := 53) dX0_typedIn_53 rfl rfl ?_
      refine G_istore (pc := 54) dX0_typedIn_54 (by decide) rfl ?_
      refine G_iconst (pc := 56) (v := nI 0) dX0_typedIn_56 (by decide) ?_
      refine G_istore (pc := 57) dX0_typedIn_57 (by decide) rfl ?_
      have b0 := btN_le (j := 0) c47 (by omega) t4
      have b1 := btN_le (j := 1) c47 (by omega) t4
      have b2 := btN_le (j := 2) c47 (by omega) t4
      have hT := typN_3 (S := S0) (t := t) (f := nib st k) hq
      refine typedIn_st t1 hq c47 t3 he t4 (by omega) (by omega) (fun o9 => typedIn_st (j := 1) t1 hq c47 t3 he t4 (by omega) (by omega) (fun o9 => typedIn_st (j := 2) t1 hq c47 t3 he t4 (by omega) (by omega) (fun o9 => ?_)))
      have hTl : typN S0 t (nib st k) q 0 (q * 16777216) < 67108864 := by omega
      rw [hT]
      have ih2 := fun o5 o6 o7 o8 o9 => ih (k + 1) (typN S0 t (nib st k) q 0 (q * 16777216)) o5 o6 o7 o8 o9 (by omega) (fun i hi => by rw [show k + 1 + i = k + (i + 1) by omega, hs (i + 1) (by simp; omega)]; simp) (fun x hx => ht x (List.mem_cons_of_mem _ hx)) hTl
      refine G_iload (pc := 59) dX0_typedIn_59 rfl ?_
      refine G_iconst (pc := 61) (v := nI 3) dX0_typedIn_61 (by decide) ?_
      refine N_icmp_ge (pc := 62) (tgt := 107) dX0_typedIn_62 (by decide) (by omega) (fun c62 => ?_) (fun c62 => absurd c62 (by omega))
      refine G_iload (pc := 107) dX0_typedIn_107 rfl ?_
      refine N_if_le (pc := 109) (tgt := 121) dX0_typedIn_109 (by decide) (by omega) (fun c109 => ?_) (fun c109 => ?_)
      · skip
        rw [if_neg (by omega)] at h
        refine G_iload (pc := 121) dX0_typedIn_121 rfl ?_
        refine G_istore_n (pc := 123) dX0_typedIn_123 rfl (by decide) rfl ?_
        refine N_iinc (pc := 124) dX0_typedIn_124 rfl (by decide) rfl ?_
        refine G_goto (pc := 127) (tgt := 6) dX0_typedIn_127 (by decide) ?_
        exact ih2 _ _ _ _ _ h
      · skip
        refine G_iload (pc := 112) dX0_typedIn_112 rfl ?_
        refine G_iload_n (pc := 114) dX0_typedIn_114 rfl rfl ?_
        rw [cm_pos c109]
        refine N_icmp_eq (pc := 115) (tgt := 121) dX0_typedIn_115 (by decide) (by omega) (fun c115 => ?_) (fun c115 => ?_)
        · skip
          rw [if_neg (by omega)] at h
          refine G_iload (pc := 121) dX0_typedIn_121 rfl ?_
          refine G_istore_n (pc := 123) dX0_typedIn_123 rfl (by decide) rfl ?_
          refine N_iinc (pc := 124) dX0_typedIn_124 rfl (by decide) rfl ?_
          refine G_goto (pc := 127) (tgt := 6) dX0_typedIn_127 (by decide) ?_
          exact ih2 _ _ _ _ _ h
        · skip
          rw [if_pos ⟨by omega, c115⟩] at h
          refine G_bipush (pc := 118) (v := (-4)) dX0_typedIn_118 (by decide) ?_
          refine S_iret (pc := 120) dX0_typedIn_120 rfl ?_
          exact h
    · skip
      rw [if_neg c47] at h
      refine G_bipush (pc := 50) (v := (-4)) dX0_typedIn_50 (by decide) ?_
      refine S_iret (pc := 52) dX0_typedIn_52 rfl ?_
      exact h
set_option maxRecDepth 100000 in
set_option maxHeartbeats 4000000 in
theorem sX0_typedIn {S0 : ST} {ts : List Nat} {st q : Nat} (hst : st < 65536) (hq : 1 ≤ q ∧ q ≤ 3) (hts : TsOk S0 ts) (hby : EnBy S0 ts) (h0 : ts ≠ []) (hH : FtH S0 S ts) (h : Q (some (aI (oI (typG S0 st q ts 0 0)))) (mk S)) : CT sc mX0_typedIn [aR 6, aI (nI st), aI (nI q)] (mk S) Q := by
  refine S_of (by decide) rfl ?_
  show G sc mX0_typedIn 0 [some (aR 6), some (aI (nI st)), some (aI (nI q)), none, none, none, none, none, none, none] [] (mk S) Q
  refine G_bipush (pc := 0) (v := (-4)) dX0_typedIn_0 (by decide) ?_
  refine G_istore_n (pc := 2) dX0_typedIn_2 rfl (by decide) rfl ?_
  refine G_iconst (pc := 3) (v := nI 0) dX0_typedIn_3 (by decide) ?_
  refine G_istore (pc := 4) dX0_typedIn_4 (by decide) rfl ?_
  exact typedIn_lp hst hq hts.1 (List.length_pos_iff.mpr h0) hH.1 ts 0 0 _ _ _ _ _ (by omega) (fun i hi => by rw [Nat.zero_add]; exact hH.2.2.2.1 i hi) (fun t ht => ⟨(hts.2 t ht).1, (hH.2.2.2.2 t ht).2.2.1, (hts.2 t ht).2.2.2.2.2, hby t ht⟩) (by omega) h
end C8
