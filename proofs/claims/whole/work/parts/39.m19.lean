/-! the model: isAll, leftOf, typedAt -/
def allG (S : ST) (n : Nat) : List Nat → Nat → Bool
  | [], _ => true
  | t :: r, k => decide (nib n k = esN S t) && allG S n r (k + 1)
def leftG (S : ST) (n more : Nat) : List Nat → Nat → Nat → Option Nat
  | [], _, acc => some acc
  | t :: r, k, acc => if nib n k + more < esN S t then leftG S n more r (k + 1) (acc + (esN S t - nib n k - more) * 2 ^ (4 * k)) else none
/-- the typed piece of q bytes from the place f on in the end of t -/
def typN (S : ST) (t f : Nat) : Nat → Nat → Nat → Nat
  | 0, _, acc => acc
  | d + 1, i, acc => typN S t f d (i + 1) (acc + (enB S t (f + i)).toNatClampNeg * 2 ^ (8 * d))
def typG (S : ST) (n q : Nat) : List Nat → Nat → Nat → Option Nat
  | [], _, first => some first
  | t :: r, k, first => if nib n k + q ≤ esN S t then (if 0 < k ∧ ¬ typN S t (nib n k) q 0 (q * 16777216) = first then none else typG S n q r (k + 1) (typN S t (nib n k) q 0 (q * 16777216))) else none
section M19
variable {sc : SC} {S : ST} {Q : Option AV → HM → Prop}
theorem allG_no {S : ST} {n : Nat} : ∀ (r : List Nat) (k : Nat), (false && allG S n r k) = false := fun _ _ => rfl
set_option maxRecDepth 100000 in
set_option maxHeartbeats 4000000 in
theorem isAll_lp {n m : Nat} (hn : n < 65536) (hm : m ≤ 4) (hsm : S.1 389 13 = nI m) :
    ∀ (r : List Nat) (k : Nat) (b : Bool), k + r.length = m → (∀ i, i < r.length → S.2.1 398 (k + i) = nI (r.getD i 0)) → (∀ t ∈ r, t < 12 ∧ S.2.1 394 t = nI (esN S t) ∧ esN S t ≤ 12) →
      Q (some (aI (bI (b && allG S n r k)))) (mk S) → G sc mX10_isAll 4 [some (aR 389), some (aI (nI n)), some (aI (bI b)), some (aI (nI k))] [] (mk S) Q := by
  intro r
  induction r with
  | nil =>
    intro k b hk _ _ h
    have hk : k + 0 = m := hk
    refine G_iload_n (pc := 4) dX10_isAll_4 rfl rfl ?_
    refine G_aload_n (pc := 5) dX10_isAll_5 rfl rfl ?_
    refine S_getI (pc := 6) dX10_isAll_6 fX10_164 rfl (by first | rfl | assumption) rfl ?_
    rw [hsm]
    refine N_icmp_ge (pc := 9) (tgt := 50) dX10_isAll_9 (by decide) (by omega) (fun c9 => ?_) (fun c9 => absurd c9 (by omega))
    refine G_iload_n (pc := 50) dX10_isAll_50 rfl rfl ?_
    refine S_zret (pc := 51) dX10_isAll_51 rfl (bI_nar _) ?_
    exact q_b h (by simp [allG])
  | cons t r ih =>
    intro k b hk hsh hts h
    have hk : k + (r.length + 1) = m := hk
    obtain ⟨t1, t2, t3⟩ := hts t List.mem_cons_self
    have hsk : S.2.1 398 k = nI t := hsh 0 (by simp)
    have hnl := nib_lt n k
    have e0 : allG S n (t :: r) k = (decide (nib n k = esN S t) && allG S n r (k + 1)) := rfl
    have K : ∀ c : Bool, Q (some (aI (bI (c && allG S n r (k + 1))))) (mk S) → G sc mX10_isAll 4 [some (aR 389), some (aI (nI n)), some (aI (bI c)), some (aI (nI (k + 1)))] [] (mk S) Q := fun c hc => ih (k + 1) c (by omega) (fun i hi => by rw [show k + 1 + i = k + (i + 1) by omega, hsh (i + 1) (by simp; omega)]; simp) (fun u hu => hts u (List.mem_cons_of_mem _ hu)) hc
    refine G_iload_n (pc := 4) dX10_isAll_4 rfl rfl ?_
    refine G_aload_n (pc := 5) dX10_isAll_5 rfl rfl ?_
    refine S_getI (pc := 6) dX10_isAll_6 fX10_164 rfl (by first | rfl | assumption) rfl ?_
    rw [hsm]
    refine N_icmp_ge (pc := 9) (tgt := 50) dX10_isAll_9 (by decide) (by omega) (fun c9 => absurd c9 (by omega)) (fun c9 => ?_)
    refine G_iload_n (pc := 12) dX10_isAll_12 rfl rfl ?_
    refine B_if_eq (pc := 13) (tgt := 42) dX10_isAll_13 (by decide) (fun c13 => ?_) (fun c13 => ?_)
    · skip
      rw [c13] at h
      refine G_iconst (pc := 42) (v := nI 0) dX10_isAll_42 (by decide) ?_
      refine G_istore_n (pc := 43) dX10_isAll_43 rfl (by decide) rfl ?_
      refine N_iinc (pc := 44) dX10_isAll_44 rfl (by decide) rfl ?_
      refine G_goto (pc := 47) (tgt := 4) dX10_isAll_47 (by decide) ?_
      first | exact K false h | exact K true h
    · skip
      rw [c13, e0] at h
      refine G_iload_n (pc := 16) dX10_isAll_16 rfl rfl ?_
      refine G_iconst (pc := 17) (v := nI 4) dX10_isAll_17 (by decide) ?_
      refine G_iload_n (pc := 18) dX10_isAll_18 rfl rfl ?_
      refine N_imul (pc := 19) dX10_isAll_19 ?_
      refine G_ishr (pc := 20) dX10_isAll_20 ?_
      refine G_bipush (pc := 21) (v := nI 15) dX10_isAll_21 (by decide) ?_
      refine G_iand (pc := 23) dX10_isAll_23 ?_
      rw [nibE (by omega) (by omega)]
      refine G_aload_n (pc := 24) dX10_isAll_24 rfl rfl ?_
      refine S_getR (pc := 25) (b := 394) dX10_isAll_25 fX10_22 rfl rfl (by first | rfl | assumption) rfl rfl ?_
      refine G_aload_n (pc := 28) dX10_isAll_28 rfl rfl ?_
      refine S_getR (pc := 29) (b := 398) dX10_isAll_29 fX10_34 rfl rfl (by first | rfl | assumption) rfl rfl ?_
      refine G_iload_n (pc := 32) dX10_isAll_32 rfl rfl ?_
      refine N_iald (pc := 33) dX10_isAll_33 (by first | rfl | assumption) (by first | rfl | assumption) (by omega) ?_
      rw [hsk]
      refine N_iald (pc := 34) dX10_isAll_34 (by first | rfl | assumption) (by first | rfl | assumption) (by omega) ?_
      rw [t2]
      refine N_icmp_ne (pc := 35) (tgt := 42) dX10_isAll_35 (by decide) (by omega) (fun c35 => ?_) (fun c35 => ?_)
      · skip
        rw [decide_eq_false c35] at h
        refine G_iconst (pc := 42) (v := nI 0) dX10_isAll_42 (by decide) ?_
        refine G_istore_n (pc := 43) dX10_isAll_43 rfl (by decide) rfl ?_
        refine N_iinc (pc := 44) dX10_isAll_44 rfl (by decide) rfl ?_
        refine G_goto (pc := 47) (tgt := 4) dX10_isAll_47 (by decide) ?_
        first | exact K false h | exact K true h
      · skip
        rw [decide_eq_true c35] at h
        refine G_iconst (pc := 38) (v := nI 1) dX10_isAll_38 (by decide) ?_
        refine G_goto (pc := 39) (tgt := 43) dX10_isAll_39 (by decide) ?_
        refine G_istore_n (pc := 43) dX10_isAll_43 rfl (by decide) rfl ?_
        refine N_iinc (pc := 44) dX10_isAll_44 rfl (by decide) rfl ?_
        refine G_goto (pc := 47) (tgt := 4) dX10_isAll_47 (by decide) ?_
        first | exact K false h | exact K true h
set_option maxRecDepth 100000 in
set_option maxHeartbeats 4000000 in
theorem sX10_isAll {n : Nat} {ts : List Nat} (hn : n < 65536) (hts : TsOk S ts) (hsh : ShIs S ts) (h : Q (some (aI (bI (allG S n ts 0)))) (mk S)) : CT sc mX10_isAll [aR 389, aI (nI n)] (mk S) Q := by
  refine S_of (by decide) rfl ?_
  show G sc mX10_isAll 0 [some (aR 389), some (aI (nI n)), none, none] [] (mk S) Q
  refine G_iconst (pc := 0) (v := nI 1) dX10_isAll_0 (by decide) ?_
  refine G_istore_n (pc := 1) dX10_isAll_1 rfl (by decide) rfl ?_
  refine G_iconst (pc := 2) (v := nI 0) dX10_isAll_2 (by decide) ?_
  refine G_istore_n (pc := 3) dX10_isAll_3 rfl (by decide) rfl ?_
  exact isAll_lp hn hts.1 hsh.1 ts 0 true (by omega) (fun i hi => by rw [Nat.zero_add]; exact hsh.2 i hi) (fun t ht => ⟨(hts.2 t ht).1, (hts.2 t ht).2.2.2.1, (hts.2 t ht).2.2.2.2.2⟩) h
set_option maxRecDepth 100000 in
set_option maxHeartbeats 4000000 in
theorem leftOf_lp {n more m : Nat} (hn : n < 65536) (hmo : more ≤ 3) (hm : m ≤ 4) (hsm : S.1 389 13 = nI m) :
    ∀ (r : List Nat) (k acc : Nat) (o5 : Option AV), k + r.length = m → (∀ i, i < r.length → S.2.1 398 (k + i) = nI (r.getD i 0)) → (∀ t ∈ r, t < 12 ∧ S.2.1 394 t = nI (esN S t) ∧ esN S t ≤ 12) → acc < 2 ^ (4 * k) →
      Q (some (aI (oI (leftG S n more r k acc)))) (mk S) → G sc mX10_leftOf 5 [some (aR 389), some (aI (nI n)), some (aI (nI more)), some (aI (nI acc)), some (aI (nI k)), o5] [] (mk S) Q := by
  intro r
  induction r with
  | nil =>
    intro k acc o5 hk _ _ _ h
    have hk : k + 0 = m := hk
    refine G_iload (pc := 5) dX10_leftOf_5 rfl ?_
    refine G_aload_n (pc := 7) dX10_leftOf_7 rfl rfl ?_
    refine S_getI (pc := 8) dX10_leftOf_8 fX10_164 rfl (by first | rfl | assumption) rfl ?_
    rw [hsm]
    refine N_icmp_ge (pc := 11) (tgt := 65) dX10_leftOf_11 (by decide) (by omega) (fun c11 => ?_) (fun c11 => absurd c11 (by omega))
    refine G_iload_n (pc := 65) dX10_leftOf_65 rfl rfl ?_
    refine S_iret (pc := 66) dX10_leftOf_66 rfl ?_
    exact h
  | cons t r ih =>
    intro k acc o5 hk hsh hts hacc h
    have hk : k + (r.length + 1) = m := hk
    obtain ⟨t1, t2, t3⟩ := hts t List.mem_cons_self
    have hsk : S.2.1 398 k = nI t := hsh 0 (by simp)
    have hnl := nib_lt n k
    have h16 := p16_le (show k ≤ 3 by omega)
    by_cases hc : nib n k + more < esN S t
    · have e0 : leftG S n more (t :: r) k acc = leftG S n more r (k + 1) (acc + (esN S t - nib n k - more) * 2 ^ (4 * k)) := by conv => lhs; unfold leftG; rw [if_pos hc]
      rw [e0] at h
      have gm := Nat.mul_le_mul_right (2 ^ (4 * k)) (show esN S t - nib n k - more ≤ 15 by omega)
      refine G_iload (pc := 5) dX10_leftOf_5 rfl ?_
      refine G_aload_n (pc := 7) dX10_leftOf_7 rfl rfl ?_
      refine S_getI (pc := 8) dX10_leftOf_8 fX10_164 rfl (by first | rfl | assumption) rfl ?_
      rw [hsm]
      refine N_icmp_ge (pc := 11) (tgt := 65) dX10_leftOf_11 (by decide) (by omega) (fun c11 => absurd c11 (by omega)) (fun c11 => ?_)
      refine G_aload_n (pc := 14) dX10_leftOf_14 rfl rfl ?_
      refine S_getR (pc := 15) (b := 394) dX10_leftOf_15 fX10_22 rfl rfl (by first | rfl | assumption) rfl rfl ?_
      refine G_aload_n (pc := 18) dX10_leftOf_18 rfl rfl ?_
      refine S_getR (pc := 19) (b := 398) dX10_leftOf_19 fX10_34 rfl rfl (by first | rfl | assumption) rfl rfl ?_
      refine G_iload (pc := 22) dX10_leftOf_22 rfl ?_
      refine N_iald (pc := 24) dX10_leftOf_24 (by first | rfl | assumption) (by first | rfl | assumption) (by omega) ?_
      rw [hsk]
      refine N_iald (pc := 25) dX10_leftOf_25 (by first | rfl | assumption) (by first | rfl | assumption) (by omega) ?_
      rw [t2]
      refine G_iload_n (pc := 26) dX10_leftOf_26 rfl rfl ?_
      refine G_iconst (pc := 27) (v := nI 4) dX10_leftOf_27 (by decide) ?_
      refine G_iload (pc := 28) dX10_leftOf_28 rfl ?_
      refine N_imul (pc := 30) dX10_leftOf_30 ?_
      refine G_ishr (pc := 31) dX10_leftOf_31 ?_
      refine G_bipush (pc := 32) (v := nI 15) dX10_leftOf_32 (by decide) ?_
      refine G_iand (pc := 34) dX10_leftOf_34 ?_
      rw [nibE (by omega) (by omega)]
      refine N_isub (pc := 35) dX10_leftOf_35 (by omega) ?_
      refine G_iload_n (pc := 36) dX10_leftOf_36 rfl rfl ?_
      refine N_isub (pc := 37) dX10_leftOf_37 (by omega) ?_
      refine G_istore (pc := 38) dX10_leftOf_38 (by decide) rfl ?_
      refine G_iload (pc := 40) dX10_leftOf_40 rfl ?_
      refine G_iconst (pc := 42) (v := nI 1) dX10_leftOf_42 (by decide) ?_
      refine N_icmp_ge (pc := 43) (tgt := 49) dX10_leftOf_43 (by decide) (by omega) (fun c43 => ?_) (fun c43 => absurd c43 (by omega))
      refine G_iload_n (pc := 49) dX10_leftOf_49 rfl rfl ?_
      refine G_iload (pc := 50) dX10_leftOf_50 rfl ?_
      refine G_iconst (pc := 52) (v := nI 4) dX10_leftOf_52 (by decide) ?_
      refine G_iload (pc := 53) dX10_leftOf_53 rfl ?_
      refine N_imul (pc := 55) dX10_leftOf_55 ?_
      refine G_ishl (pc := 56) dX10_leftOf_56 ?_
      rw [shlN (by omega) (by omega)]
      refine G_ior (pc := 57) dX10_leftOf_57 ?_
      rw [orN (esN S t - nib n k - more) hacc]
      refine G_istore_n (pc := 58) dX10_leftOf_58 rfl (by decide) rfl ?_
      refine N_iinc (pc := 59) dX10_leftOf_59 rfl (by decide) rfl ?_
      refine G_goto (pc := 62) (tgt := 5) dX10_leftOf_62 (by decide) ?_
      exact ih (k + 1) _ _ (by omega) (fun i hi => by rw [show k + 1 + i = k + (i + 1) by omega, hsh (i + 1) (by simp; omega)]; simp) (fun u hu => hts u (List.mem_cons_of_mem _ hu)) (p16_lt hacc (by omega)) h
    · have e0 : leftG S n more (t :: r) k acc = none := by conv => lhs; unfold leftG; rw [if_neg hc]
      rw [e0] at h
      have z1 : (nI 1).toInt = 1 := rfl
      have e9 : (nI (esN S t) - nI (nib n k) - nI more).toInt = (esN S t : Int) - nib n k - more := by
        have q := pk_sub_toInt (a := esN S t) (b := nib n k) (by omega) (by omega)
        rw [sub_toInt (by rw [q, nIt (by omega)]; omega) (by rw [q, nIt (by omega)]; omega), q, nIt (by omega)]
      refine G_iload (pc := 5) dX10_leftOf_5 rfl ?_
      refine G_aload_n (pc := 7) dX10_leftOf_7 rfl rfl ?_
      refine S_getI (pc := 8) dX10_leftOf_8 fX10_164 rfl (by first | rfl | assumption) rfl ?_
      rw [hsm]
      refine N_icmp_ge (pc := 11) (tgt := 65) dX10_leftOf_11 (by decide) (by omega) (fun c11 => absurd c11 (by omega)) (fun c11 => ?_)
      refine G_aload_n (pc := 14) dX10_leftOf_14 rfl rfl ?_
      refine S_getR (pc := 15) (b := 394) dX10_leftOf_15 fX10_22 rfl rfl (by first | rfl | assumption) rfl rfl ?_
      refine G_aload_n (pc := 18) dX10_leftOf_18 rfl rfl ?_
      refine S_getR (pc := 19) (b := 398) dX10_leftOf_19 fX10_34 rfl rfl (by first | rfl | assumption) rfl rfl ?_
      refine G_iload (pc := 22) dX10_leftOf_22 rfl ?_
      refine N_iald (pc := 24) dX10_leftOf_24 (by first | rfl | assumption) (by first | rfl | assumption) (by omega) ?_
      rw [hsk]
      refine N_iald (pc := 25) dX10_leftOf_25 (by first | rfl | assumption) (by first | rfl | assumption) (by omega) ?_
      rw [t2]
      refine G_iload_n (pc := 26) dX10_leftOf_26 rfl rfl ?_
      refine G_iconst (pc := 27) (v := nI 4) dX10_leftOf_27 (by decide) ?_
      refine G_iload (pc := 28) dX10_leftOf_28 rfl ?_
      refine N_imul (pc := 30) dX10_leftOf_30 ?_
      refine G_ishr (pc := 31) dX10_leftOf_31 ?_
      refine G_bipush (pc := 32) (v := nI 15) dX10_leftOf_32 (by decide) ?_
      refine G_iand (pc := 34) dX10_leftOf_34 ?_
      rw [nibE (by omega) (by omega)]
      refine G_isub (pc := 35) dX10_leftOf_35 ?_
      refine G_iload_n (pc := 36) dX10_leftOf_36 rfl rfl ?_
      refine G_isub (pc := 37) dX10_leftOf_37 ?_
      refine G_istore (pc := 38) dX10_leftOf_38 (by decide) rfl ?_
      refine G_iload (pc := 40) dX10_leftOf_40 rfl ?_
      refine G_iconst (pc := 42) (v := nI 1) dX10_leftOf_42 (by decide) ?_
      refine T_icmp_ge (pc := 43) (tgt := 49) dX10_leftOf_43 (by decide) (fun c43 => absurd c43 (by rw [e9, z1]; omega)) (fun c43 => ?_)
      refine G_bipush (pc := 46) (v := (-4)) dX10_leftOf_46 (by decide) ?_
      refine S_iret (pc := 48) dX10_leftOf_48 rfl ?_
      exact h
set_option maxRecDepth 100000 in
set_option maxHeartbeats 4000000 in
theorem sX10_leftOf {n more : Nat} {ts : List Nat} (hn : n < 65536) (hmo : more ≤ 3) (hts : TsOk S ts) (hsh : ShIs S ts) (h : Q (some (aI (oI (leftG S n more ts 0 0)))) (mk S)) : CT sc mX10_leftOf [aR 389, aI (nI n), aI (nI more)] (mk S) Q := by
  refine S_of (by decide) rfl ?_
  show G sc mX10_leftOf 0 [some (aR 389), some (aI (nI n)), some (aI (nI more)), none, none, none] [] (mk S) Q
  refine G_iconst (pc := 0) (v := nI 0) dX10_leftOf_0 (by decide) ?_
  refine G_istore_n (pc := 1) dX10_leftOf_1 rfl (by decide) rfl ?_
  refine G_iconst (pc := 2) (v := nI 0) dX10_leftOf_2 (by decide) ?_
  refine G_istore (pc := 3) dX10_leftOf_3 (by decide) rfl ?_
  exact leftOf_lp hn hmo hts.1 hsh.1 ts 0 0 _ (by omega) (fun i hi => by rw [Nat.zero_add]; exact hsh.2 i hi) (fun t ht => ⟨(hts.2 t ht).1, (hts.2 t ht).2.2.2.1, (hts.2 t ht).2.2.2.2.2⟩) (by decide) h
end M19
