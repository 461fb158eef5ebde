/-! the model: typedAt, noteFront, noteBehind -/
theorem orM {x k : Nat} (c : Nat) (h : x < 2 ^ k) : nI (c * 2 ^ k) ||| nI x = nI (c * 2 ^ k + x) := by
  apply Int32.toBitVec_inj.1
  show BitVec.ofNat 32 (c * 2 ^ k) ||| BitVec.ofNat 32 x = BitVec.ofNat 32 (c * 2 ^ k + x)
  rw [← BitVec.ofNat_or]
  congr 1
  rw [Nat.mul_comm c, ← Nat.two_pow_add_eq_or_of_lt h]
theorem isBy_n {x : Int32} (h : isBy x) : x = nI x.toNatClampNeg ∧ 32 ≤ x.toNatClampNeg ∧ x.toNatClampNeg ≤ 126 := by
  have e : x.toNatClampNeg = x.toInt.toNat := nI_clampT (by have := h.1; omega)
  have h1 := h.1
  have h2 := h.2
  refine ⟨by rw [e]; exact nI_ofT (by omega), by omega, by omega⟩
theorem p256_s (d : Nat) : 2 ^ (8 * (d + 1)) = 256 * 2 ^ (8 * d) := by
  rw [show 8 * (d + 1) = 8 * d + 8 by omega, Nat.pow_add]
  omega
theorem typN_lt {S : ST} {t f : Nat} : ∀ (d i acc : Nat), (∀ j, i ≤ j → j < i + d → (enB S t (f + j)).toNatClampNeg ≤ 255) → typN S t f d i acc < acc + 2 ^ (8 * d)
  | 0, i, acc, _ => by show acc < acc + 1; omega
  | d + 1, i, acc, h => by
    have h1 := typN_lt (S := S) (t := t) (f := f) d (i + 1) (acc + (enB S t (f + i)).toNatClampNeg * 2 ^ (8 * d)) (fun j g1 g2 => h j (by omega) (by omega))
    have h2 := Nat.mul_le_mul_right (2 ^ (8 * d)) (h i (Nat.le_refl _) (by omega))
    rw [p256_s]
    show typN S t f d (i + 1) _ < _
    omega
theorem typN_ge {S : ST} {t f : Nat} : ∀ (d i acc : Nat), acc ≤ typN S t f d i acc
  | 0, i, acc => Nat.le_refl _
  | d + 1, i, acc => Nat.le_trans (Nat.le_add_right _ _) (typN_ge d (i + 1) _)
theorem p8_le {d : Nat} (h : d ≤ 2) : 2 ^ (8 * d) ≤ 65536 := by
  rcases (show d = 0 ∨ d = 1 ∨ d = 2 by omega) with rfl | rfl | rfl <;> decide
section M20
variable {sc : SC} {S : ST} {Q : Option AV → HM → Prop}
set_option maxRecDepth 100000 in
set_option maxHeartbeats 4000000 in
theorem typedAt_in {n q t f k first : Nat} (ht : t < 12) (hq : q ≤ 3) (hf : f + q ≤ esN S t) (he : esN S t ≤ 12) (hk : k < 4) (hsk : S.2.1 398 k = nI t) (hby : ∀ j, j < esN S t → isBy (enB S t j)) :
    ∀ (d i acc c : Nat), i + d = q → acc = c * 2 ^ (8 * d) → G sc mX10_typedAt 104 [some (aR 389), some (aI (nI n)), some (aI (nI q)), some (aI (nI first)), some (aI (nI k)), some (aI (nI f)), some (aI (nI (typN S t f d i acc))), some (aI (nI q))] [] (mk S) Q →
      G sc mX10_typedAt 56 [some (aR 389), some (aI (nI n)), some (aI (nI q)), some (aI (nI first)), some (aI (nI k)), some (aI (nI f)), some (aI (nI acc)), some (aI (nI i))] [] (mk S) Q := by
  intro d
  induction d with
  | zero =>
    intro i acc c hi _ h
    have e : i = q := by omega
    subst e
    refine G_iload (pc := 56) dX10_typedAt_56 rfl ?_
    refine G_iload_n (pc := 58) dX10_typedAt_58 rfl rfl ?_
    refine N_icmp_ge (pc := 59) (tgt := 104) dX10_typedAt_59 (by decide) (by omega) (fun c59 => ?_) (fun c59 => absurd c59 (by omega))
    exact h
  | succ d ih =>
    intro i acc c hi hacc h
    have hb := isBy_n (hby (f + i) (by omega))
    have h8 := p8_le (show d ≤ 2 by omega)
    have hm := Nat.mul_le_mul_right (2 ^ (8 * d)) hb.2.2
    have hs := p256_s d
    have e0 : typN S t f (d + 1) i acc = typN S t f d (i + 1) (acc + (enB S t (f + i)).toNatClampNeg * 2 ^ (8 * d)) := rfl
    rw [e0] at h
    have e1 : q - 1 - i = d := by omega
    have e2 : acc + (enB S t (f + i)).toNatClampNeg * 2 ^ (8 * d) = (256 * c + (enB S t (f + i)).toNatClampNeg) * 2 ^ (8 * d) := by
      rw [Nat.add_mul, hacc, hs]
      congr 1
      rw [Nat.mul_comm 256 c, Nat.mul_assoc]
    have hpos : 0 < 2 ^ (8 * d) := Nat.pow_pos (by decide)
    refine G_iload (pc := 56) dX10_typedAt_56 rfl ?_
    refine G_iload_n (pc := 58) dX10_typedAt_58 rfl rfl ?_
    refine N_icmp_ge (pc := 59) (tgt := 104) dX10_typedAt_59 (by decide) (by omega) (fun c59 => absurd c59 (by omega)) (fun c59 => ?_)
    refine G_iload (pc := 62) dX10_typedAt_62 rfl ?_
    refine G_aload_n (pc := 64) dX10_typedAt_64 rfl rfl ?_
    refine S_getR (pc := 65) (b := 393) dX10_typedAt_65 fX10_19 rfl rfl (by first | rfl | assumption) rfl rfl ?_
    refine G_bipush (pc := 68) (v := nI 36) dX10_typedAt_68 (by decide) ?_
    refine G_aload_n (pc := 70) dX10_typedAt_70 rfl rfl ?_
    refine S_getR (pc := 71) (b := 398) dX10_typedAt_71 fX10_34 rfl rfl (by first | rfl | assumption) rfl rfl ?_
    refine G_iload (pc := 74) dX10_typedAt_74 rfl ?_
    refine N_iald (pc := 76) dX10_typedAt_76 (by first | rfl | assumption) (by first | rfl | assumption) (by omega) ?_
    rw [hsk]
    refine N_imul (pc := 77) dX10_typedAt_77 ?_
    refine G_iload (pc := 78) dX10_typedAt_78 rfl ?_
    refine N_iadd (pc := 80) dX10_typedAt_80 ?_
    refine G_iload (pc := 81) dX10_typedAt_81 rfl ?_
    refine N_iadd (pc := 83) dX10_typedAt_83 ?_
    refine N_iald (pc := 84) dX10_typedAt_84 (by first | rfl | assumption) (by first | rfl | assumption) (by omega) ?_
    rw [show 36 * t + f + i = 36 * t + (f + i) by omega, show S.2.1 393 (36 * t + (f + i)) = nI (enB S t (f + i)).toNatClampNeg from hb.1]
    refine G_bipush (pc := 85) (v := nI 8) dX10_typedAt_85 (by decide) ?_
    refine G_iload_n (pc := 87) dX10_typedAt_87 rfl rfl ?_
    refine G_iconst (pc := 88) (v := nI 1) dX10_typedAt_88 (by decide) ?_
    refine N_isub (pc := 89) dX10_typedAt_89 (by omega) ?_
    refine G_iload (pc := 90) dX10_typedAt_90 rfl ?_
    refine N_isub (pc := 92) dX10_typedAt_92 (by omega) ?_
    rw [e1]
    refine N_imul (pc := 93) dX10_typedAt_93 ?_
    refine G_ishl (pc := 94) dX10_typedAt_94 ?_
    rw [shlN (by omega) (by omega)]
    refine G_ior (pc := 95) dX10_typedAt_95 ?_
    rw [hacc, orM c (by rw [hs]; omega), ← hacc]
    refine G_istore (pc := 96) dX10_typedAt_96 (by decide) rfl ?_
    refine N_iinc (pc := 98) dX10_typedAt_98 rfl (by decide) rfl ?_
    refine G_goto (pc := 101) (tgt := 56) dX10_typedAt_101 (by decide) ?_
    exact ih (i + 1) _ _ (by omega) e2 h
set_option maxRecDepth 100000 in
set_option maxHeartbeats 4000000 in
theorem typedAt_lp {n q m : Nat} (hn : n < 65536) (hq : 1 ≤ q ∧ q ≤ 3) (hm : m ≤ 4) (hsm : S.1 389 13 = nI m) :
    ∀ (r : List Nat) (k first : Nat) (o5 o6 o7 : Option AV), k + r.length = m → (∀ i, i < r.length → S.2.1 398 (k + i) = nI (r.getD i 0)) → (∀ t ∈ r, (t < 12 ∧ S.2.1 394 t = nI (esN S t) ∧ esN S t ≤ 12) ∧ ∀ j, j < esN S t → isBy (enB S t j)) → first < 134217728 →
      Q (some (aI (oI (typG S n q r k first)))) (mk S) → G sc mX10_typedAt 5 [some (aR 389), some (aI (nI n)), some (aI (nI q)), some (aI (nI first)), some (aI (nI k)), o5, o6, o7] [] (mk S) Q := by
  intro r
  induction r with
  | nil =>
    intro k first o5 o6 o7 hk _ _ _ h
    have hk : k + 0 = m := hk
    refine G_iload (pc := 5) dX10_typedAt_5 rfl ?_
    refine G_aload_n (pc := 7) dX10_typedAt_7 rfl rfl ?_
    refine S_getI (pc := 8) dX10_typedAt_8 fX10_164 rfl (by first | rfl | assumption) rfl ?_
    rw [hsm]
    refine N_icmp_ge (pc := 11) (tgt := 127) dX10_typedAt_11 (by decide) (by omega) (fun c11 => ?_) (fun c11 => absurd c11 (by omega))
    refine G_iload_n (pc := 127) dX10_typedAt_127 rfl rfl ?_
    refine S_iret (pc := 128) dX10_typedAt_128 rfl ?_
    exact h
  | cons t r ih =>
    intro k first o5 o6 o7 hk hsh hts hfi h
    have hk : k + (r.length + 1) = m := hk
    obtain ⟨⟨t1, t2, t3⟩, hby⟩ := hts t List.mem_cons_self
    have hsk : S.2.1 398 k = nI t := hsh 0 (by simp)
    have hnl := nib_lt n k
    have hk9 : (16777216 : Int32) = nI 16777216 := rfl
    by_cases hc : nib n k + q ≤ esN S t
    · have hz : typN S t (nib n k) q 0 (q * 16777216) < q * 16777216 + 2 ^ (8 * q) := typN_lt q 0 _ (fun j _ g2 => by have := (isBy_n (hby (nib n k + j) (by omega))).2.2; omega)
      have hz2 : 2 ^ (8 * q) ≤ 16777216 := by rcases (show q = 1 ∨ q = 2 ∨ q = 3 by omega) with rfl | rfl | rfl <;> decide
      have e0 : typG S n q (t :: r) k first = if 0 < k ∧ ¬ typN S t (nib n k) q 0 (q * 16777216) = first then none else typG S n q r (k + 1) (typN S t (nib n k) q 0 (q * 16777216)) := by conv => lhs; unfold typG; rw [if_pos hc]
      obtain ⟨c, hcq⟩ : ∃ c, q * 16777216 = c * 2 ^ (8 * q) := by
        rcases (show q = 1 ∨ q = 2 ∨ q = 3 by omega) with rfl | rfl | rfl
        · exact ⟨65536, by decide⟩
        · exact ⟨512, by decide⟩
        · exact ⟨3, by decide⟩
      refine G_iload (pc := 5) dX10_typedAt_5 rfl ?_
      refine G_aload_n (pc := 7) dX10_typedAt_7 rfl rfl ?_
      refine S_getI (pc := 8) dX10_typedAt_8 fX10_164 rfl (by first | rfl | assumption) rfl ?_
      rw [hsm]
      refine N_icmp_ge (pc := 11) (tgt := 127) dX10_typedAt_11 (by decide) (by omega) (fun c11 => absurd c11 (by omega)) (fun c11 => ?_)
      refine G_iload_n (pc := 14) dX10_typedAt_14 rfl rfl ?_
      refine G_iconst (pc := 15) (v := nI 4) dX10_typedAt_15 (by decide) ?_
      refine G_iload (pc := 16) dX10_typedAt_16 rfl ?_
      refine N_imul (pc := 18) dX10_typedAt_18 ?_
      refine G_ishr (pc := 19) dX10_typedAt_19 ?_
      refine G_bipush (pc := 20) (v := nI 15) dX10_typedAt_20 (by decide) ?_
      refine G_iand (pc := 22) dX10_typedAt_22 ?_
      rw [nibE (by omega) (by omega)]
      refine G_istore (pc := 23) dX10_typedAt_23 (by decide) rfl ?_
      refine G_iload_n (pc := 25) dX10_typedAt_25 rfl rfl ?_
      refine G_ldc (pc := 26) dX10_typedAt_26 kX10_149 ?_
      rw [hk9]
      refine N_imul (pc := 28) dX10_typedAt_28 ?_
      refine G_istore (pc := 29) dX10_typedAt_29 (by decide) rfl ?_
      refine G_iload (pc := 31) dX10_typedAt_31 rfl ?_
      refine G_iload_n (pc := 33) dX10_typedAt_33 rfl rfl ?_
      refine N_iadd (pc := 34) dX10_typedAt_34 ?_
      refine G_aload_n (pc := 35) dX10_typedAt_35 rfl rfl ?_
      refine S_getR (pc := 36) (b := 394) dX10_typedAt_36 fX10_22 rfl rfl (by first | rfl | assumption) rfl rfl ?_
      refine G_aload_n (pc := 39) dX10_typedAt_39 rfl rfl ?_
      refine S_getR (pc := 40) (b := 398) dX10_typedAt_40 fX10_34 rfl rfl (by first | rfl | assumption) rfl rfl ?_
      refine G_iload (pc := 43) dX10_typedAt_43 rfl ?_
      refine N_iald (pc := 45) dX10_typedAt_45 (by first | rfl | assumption) (by first | rfl | assumption) (by omega) ?_
      rw [hsk]
      refine N_iald (pc := 46) dX10_typedAt_46 (by first | rfl | assumption) (by first | rfl | assumption) (by omega) ?_
      rw [t2]
      refine N_icmp_le (pc := 47) (tgt := 53) dX10_typedAt_47 (by decide) (by omega) (fun c47 => ?_) (fun c47 => absurd c47 (by omega))
      refine G_iconst (pc := 53) (v := nI 0) dX10_typedAt_53 (by decide) ?_
      refine G_istore (pc := 54) dX10_typedAt_54 (by decide) rfl ?_
      refine typedAt_in t1 hq.2 hc t3 (by omega) hsk hby q 0 (q * 16777216) c (by omega) hcq ?_
      generalize hv : typN S t (nib n k) q 0 (q * 16777216) = v at e0 hz
      have K : Q (some (aI (oI (typG S n q r (k + 1) v)))) (mk S) → G sc mX10_typedAt 118 [some (aR 389), some (aI (nI n)), some (aI (nI q)), some (aI (nI first)), some (aI (nI k)), some (aI (nI (nib n k))), some (aI (nI v)), some (aI (nI q))] [] (mk S) Q := by
        intro h
        refine G_iload (pc := 118) dX10_typedAt_118 rfl ?_
        refine G_istore_n (pc := 120) dX10_typedAt_120 rfl (by decide) rfl ?_
        refine N_iinc (pc := 121) dX10_typedAt_121 rfl (by decide) rfl ?_
        refine G_goto (pc := 124) (tgt := 5) dX10_typedAt_124 (by decide) ?_
        exact ih (k + 1) v _ _ _ (by omega) (fun i hi => by rw [show k + 1 + i = k + (i + 1) by omega, hsh (i + 1) (by simp; omega)]; simp) (fun u hu => hts u (List.mem_cons_of_mem _ hu)) (by omega) h
      refine G_iload (pc := 104) dX10_typedAt_104 rfl ?_
      refine N_if_le (pc := 106) (tgt := 118) dX10_typedAt_106 (by decide) (by omega) (fun c106 => ?_) (fun c106 => ?_)
      · skip
        exact K (by rw [e0, if_neg (by omega)] at h; exact h)
      · skip
        refine G_iload (pc := 109) dX10_typedAt_109 rfl ?_
        refine G_iload_n (pc := 111) dX10_typedAt_111 rfl rfl ?_
        refine N_icmp_eq (pc := 112) (tgt := 118) dX10_typedAt_112 (by decide) (by omega) (fun c112 => ?_) (fun c112 => ?_)
        · skip
          exact K (by rw [e0, if_neg (by omega)] at h; exact h)
        · skip
          refine G_bipush (pc := 115) (v := (-4)) dX10_typedAt_115 (by decide) ?_
          refine S_iret (pc := 117) dX10_typedAt_117 rfl ?_
          rw [e0, if_pos (by omega)] at h
          exact h
    · have e0 : typG S n q (t :: r) k first = none := by conv => lhs; unfold typG; rw [if_neg hc]
      rw [e0] at h
      refine G_iload (pc := 5) dX10_typedAt_5 rfl ?_
      refine G_aload_n (pc := 7) dX10_typedAt_7 rfl rfl ?_
      refine S_getI (pc := 8) dX10_typedAt_8 fX10_164 rfl (by first | rfl | assumption) rfl ?_
      rw [hsm]
      refine N_icmp_ge (pc := 11) (tgt := 127) dX10_typedAt_11 (by decide) (by omega) (fun c11 => absurd c11 (by omega)) (fun c11 => ?_)
      refine G_iload_n (pc := 14) dX10_typedAt_14 rfl rfl ?_
      refine G_iconst (pc := 15) (v := nI 4) dX10_typedAt_15 (by decide) ?_
      refine G_iload (pc := 16) dX10_typedAt_16 rfl ?_
      refine N_imul (pc := 18) dX10_typedAt_18 ?_
      refine G_ishr (pc := 19) dX10_typedAt_19 ?_
      refine G_bipush (pc := 20) (v := nI 15) dX10_typedAt_20 (by decide) ?_
      refine G_iand (pc := 22) dX10_typedAt_22 ?_
      rw [nibE (by omega) (by omega)]
      refine G_istore (pc := 23) dX10_typedAt_23 (by decide) rfl ?_
      refine G_iload_n (pc := 25) dX10_typedAt_25 rfl rfl ?_
      refine G_ldc (pc := 26) dX10_typedAt_26 kX10_149 ?_
      rw [hk9]
      refine N_imul (pc := 28) dX10_typedAt_28 ?_
      refine G_istore (pc := 29) dX10_typedAt_29 (by decide) rfl ?_
      refine G_iload (pc := 31) dX10_typedAt_31 rfl ?_
      refine G_iload_n (pc := 33) dX10_typedAt_33 rfl rfl ?_
      refine N_iadd (pc := 34) dX10_typedAt_34 ?_
      refine G_aload_n (pc := 35) dX10_typedAt_35 rfl rfl ?_
      refine S_getR (pc := 36) (b := 394) dX10_typedAt_36 fX10_22 rfl rfl (by first | rfl | assumption) rfl rfl ?_
      refine G_aload_n (pc := 39) dX10_typedAt_39 rfl rfl ?_
      refine S_getR (pc := 40) (b := 398) dX10_typedAt_40 fX10_34 rfl rfl (by first | rfl | assumption) rfl rfl ?_
      refine G_iload (pc := 43) dX10_typedAt_43 rfl ?_
      refine N_iald (pc := 45) dX10_typedAt_45 (by first | rfl | assumption) (by first | rfl | assumption) (by omega) ?_
      rw [hsk]
      refine N_iald (pc := 46) dX10_typedAt_46 (by first | rfl | assumption) (by first | rfl | assumption) (by omega) ?_
      rw [t2]
      refine N_icmp_le (pc := 47) (tgt := 53) dX10_typedAt_47 (by decide) (by omega) (fun c47 => absurd c47 (by omega)) (fun c47 => ?_)
      refine G_bipush (pc := 50) (v := (-4)) dX10_typedAt_50 (by decide) ?_
      refine S_iret (pc := 52) dX10_typedAt_52 rfl ?_
      exact h
set_option maxRecDepth 100000 in
set_option maxHeartbeats 4000000 in
theorem sX10_typedAt {n q : Nat} {ts : List Nat} (hn : n < 65536) (hq : 1 ≤ q ∧ q ≤ 3) (hts : TsOk S ts) (hby : ∀ t ∈ ts, ∀ j, j < esN S t → isBy (enB S t j)) (hsh : ShIs S ts) (h : Q (some (aI (oI (typG S n q ts 0 0)))) (mk S)) : CT sc mX10_typedAt [aR 389, aI (nI n), aI (nI q)] (mk S) Q := by
  refine S_of (by decide) rfl ?_
  show G sc mX10_typedAt 0 [some (aR 389), some (aI (nI n)), some (aI (nI q)), none, none, none, none, none] [] (mk S) Q
  refine G_iconst (pc := 0) (v := nI 0) dX10_typedAt_0 (by decide) ?_
  refine G_istore_n (pc := 1) dX10_typedAt_1 rfl (by decide) rfl ?_
  refine G_iconst (pc := 2) (v := nI 0) dX10_typedAt_2 (by decide) ?_
  refine G_istore (pc := 3) dX10_typedAt_3 (by decide) rfl ?_
  exact typedAt_lp hn hq hts.1 hsh.1 ts 0 0 _ _ _ (by omega) (fun i hi => by rw [Nat.zero_add]; exact hsh.2 i hi) (fun t ht => ⟨⟨(hts.2 t ht).1, (hts.2 t ht).2.2.2.1, (hts.2 t ht).2.2.2.2.2⟩, hby t ht⟩) (by decide) h
end M20
