/-! the class: type, thing, show, forget -/
theorem tb255 (j : Nat) : Nat.testBit 255 j = decide (j < 8) := Nat.testBit_two_pow_sub_one 8 j
theorem bvB (b : BitVec 64) (s : Nat) (hs : s ≤ 56) : ((b >>> s).signExtend 32) &&& 255#32 = ((b.sshiftRight s) &&& 255#64).signExtend 32 := by
  rw [BitVec.signExtend_eq_setWidth_of_le _ (by decide), BitVec.signExtend_eq_setWidth_of_le _ (by decide)]
  apply BitVec.eq_of_getLsbD_eq
  intro j hj
  simp only [BitVec.getLsbD_and, BitVec.getLsbD_setWidth, BitVec.getLsbD_ushiftRight, BitVec.getLsbD_sshiftRight, BitVec.getLsbD_ofNat, tb255]
  by_cases h : j < 8
  · have h1 : s + j < 64 := by omega
    have h2 : ¬ 64 ≤ j := by omega
    simp [h, h1, hj, h2]
    intro _
    omega
  · simp [h]
theorem byOf_eq {w : Int64} {i : Nat} (hi : i < 8) : ((w.toUInt64 >>> ((nI (8 * i)).toInt64.toUInt64 &&& Int64.toUInt64 63)).toInt64).toInt32 &&& nI 255 = byI w i := by
  rcases (show i = 0 ∨ i = 1 ∨ i = 2 ∨ i = 3 ∨ i = 4 ∨ i = 5 ∨ i = 6 ∨ i = 7 by omega) with rfl | rfl | rfl | rfl | rfl | rfl | rfl | rfl
  · exact Int32.toBitVec_inj.1 (bvB w.toBitVec 0 (by omega))
  · exact Int32.toBitVec_inj.1 (bvB w.toBitVec 8 (by omega))
  · exact Int32.toBitVec_inj.1 (bvB w.toBitVec 16 (by omega))
  · exact Int32.toBitVec_inj.1 (bvB w.toBitVec 24 (by omega))
  · exact Int32.toBitVec_inj.1 (bvB w.toBitVec 32 (by omega))
  · exact Int32.toBitVec_inj.1 (bvB w.toBitVec 40 (by omega))
  · exact Int32.toBitVec_inj.1 (bvB w.toBitVec 48 (by omega))
  · exact Int32.toBitVec_inj.1 (bvB w.toBitVec 56 (by omega))
theorem byL_nn (w : Int64) (i : Nat) : 0 ≤ (byL w i).toInt ∧ (byL w i).toInt ≤ 255 := by
  unfold byL
  generalize w >>> ((nI (8 * i)).toInt64 &&& 63) = x
  have h1 : (x &&& 255).toBitVec.toNat ≤ 255 := by
    show (x.toBitVec &&& 255#64).toNat ≤ 255
    rw [BitVec.toNat_and]
    exact Nat.and_le_right
  have h2 : (x &&& 255).toInt = ((x &&& 255).toBitVec.toNat : Int) := by
    show (x &&& 255).toBitVec.toInt = _
    rw [BitVec.toInt_eq_toNat_cond, if_pos (by omega)]
  omega
theorem byI_t (w : Int64) (i : Nat) : (byI w i).toInt = (byL w i).toInt := by
  have := byL_nn w i
  unfold byI
  rw [Int64.toInt_toInt32]
  exact Int.bmod_eq_of_le (by omega) (by omega)
theorem allBy_iff {w : Int64} : ∀ n, allBy w n = true ↔ ∀ i, i < n → 32 ≤ (byI w i).toInt ∧ (byI w i).toInt ≤ 126
  | 0 => ⟨fun _ i h => by omega, fun _ => rfl⟩
  | n + 1 => by
    unfold allBy
    rw [Bool.and_eq_true, allBy_iff n, decide_eq_true_eq, ← byI_t]
    constructor
    · intro h i hi
      by_cases e : i = n
      · subst e; exact h.1
      · exact h.2 i (by omega)
    · exact fun h => ⟨h n (by omega), fun i hi => h i (by omega)⟩
theorem wL_by {w : Int64} : ∀ n, allBy w n = true → LBy (wL w n)
  | 0, _ => fun x hx => by cases hx
  | n + 1, h => fun x hx => by
    have h1 := (allBy_iff (n + 1)).mp h
    rcases List.mem_cons.mp hx with z | z
    · subst z; exact h1 n (by omega)
    · exact wL_by n ((allBy_iff n).mpr (fun i hi => h1 i (by omega))) x z
section C28
variable {sc : SC} {S : ST} {Q : Option AV → HM → Prop}
set_option maxRecDepth 100000 in
set_option maxHeartbeats 4000000 in
theorem sX9_byteOf {w : Int64} {i : Nat} (hi : i < 8) (h : Q (some (aI (byI w i))) (mk S)) : CT sc mX9_byteOf [aL w, aI (nI i)] (mk S) Q := by
  refine S_of (by decide) rfl ?_
  show G sc mX9_byteOf 0 [some (aL w), none, some (aI (nI i))] [] (mk S) Q
  refine G_lload_n (pc := 0) dX9_byteOf_0 rfl rfl ?_
  refine G_bipush (pc := 1) (v := nI 8) dX9_byteOf_1 (by decide) ?_
  refine G_iload_n (pc := 3) dX9_byteOf_3 rfl rfl ?_
  refine N_imul (pc := 4) dX9_byteOf_4 ?_
  refine G_lushr (pc := 5) dX9_byteOf_5 ?_
  refine G_l2i (pc := 6) dX9_byteOf_6 ?_
  refine G_sipush (pc := 7) (v := nI 255) dX9_byteOf_7 (by decide) ?_
  refine G_iand (pc := 10) dX9_byteOf_10 ?_
  rw [byOf_eq hi]
  refine S_iret (pc := 11) dX9_byteOf_11 rfl ?_
  exact h
abbrev tpA' (a : Nat) : Prop := a = 2
abbrev tpX' (a j : Nat) : Prop := a = 1 ∧ j = 1
set_option maxRecDepth 100000 in
set_option maxHeartbeats 4000000 in
theorem typeC_lp2 {w : Int64} {n : Nat} {o : Option AV} :
    ∀ (k : Nat) (S : ST) (l : List Int32), k ≤ 8 → allBy w k = true → RwIs S 1 l → l.length + k ≤ 60 → (∀ S', Fr tpX' tpA' S S' → RwIs S' 1 (l ++ wL w k) → Q (some (aI (nI (l.length + k)))) (mk S')) →
      G sc mX9_type 64 [some (aR 0), some (aL w), o, some (aI (nI n)), some (aI (nI k - nI 1))] [] (mk S) Q := by
  intro k
  induction k with
  | zero =>
    intro S l _ _ hl hlen h
    have h := h S Fr.rf (by rw [show l ++ wL w 0 = l by simp [wL]]; exact hl)
    refine G_iload (pc := 64) dX9_type_64 rfl ?_
    refine T_if_lt (pc := 66) (tgt := 88) dX9_type_66 (by decide) (fun c66 => ?_) (fun c66 => absurd c66 (by decide))
    refine G_aload_n (pc := 88) dX9_type_88 rfl rfl ?_
    refine S_getR (pc := 89) (b := 1) dX9_type_89 fX9_14 rfl rfl (by first | rfl | assumption) rfl rfl ?_
    refine S_getI (pc := 92) dX9_type_92 fX9_92 rfl (by first | rfl | assumption) rfl ?_
    rw [hl.1]
    refine S_iret (pc := 95) dX9_type_95 rfl ?_
    exact h
  | succ k ih =>
    intro S l hk ha hl hlen h
    have h1 := (allBy_iff (k + 1)).mp ha
    rw [show nI (k + 1) - nI 1 = nI k from by rw [pk_sub (by omega)]; congr 1]
    refine G_iload (pc := 64) dX9_type_64 rfl ?_
    refine N_if_lt (pc := 66) (tgt := 88) dX9_type_66 (by decide) (by omega) ?_
    refine G_aload_n (pc := 69) dX9_type_69 rfl rfl ?_
    refine S_getR (pc := 70) (b := 1) dX9_type_70 fX9_14 rfl rfl (by first | rfl | assumption) rfl rfl ?_
    refine G_lload_n (pc := 73) dX9_type_73 rfl rfl ?_
    refine G_iload (pc := 74) dX9_type_74 rfl ?_
    refine S_callS (av := [_, _]) (pc := 76) (z := mX9_byteOf) dX9_type_76 zX9_byteOf lX9_type_84 rfl (sX9_byteOf (by omega) ⟨_, rfl, ?_⟩)
    refine S_callV (av := [_]) (pc := 79) (z := mX4_add) (ci := 3) dX9_type_79 zX4_add lX9_type_95 rfl (by first | rfl | assumption) rfl rfl (sX4_add RwK_p hl (by omega) (h1 k (by omega)) ⟨_, rfl, ?_⟩)
    refine G_iinc (pc := 82) dX9_type_82 rfl (dec1 _) (by decide) rfl ?_
    refine G_goto (pc := 85) (tgt := 64) dX9_type_85 (by decide) ?_
    have g0 : Fr tpX' tpA' S (upX (upI S (1 + 1) l.length (byI w k)) 1 1 (nI (l.length + 1))) := Fr.tr (Fr.upI rfl) (Fr.upX ⟨rfl, rfl⟩)
    refine ih _ (l ++ [byI w k]) (by omega) ((allBy_iff k).mpr (fun i hi => h1 i (by omega))) hl.push (by simp; omega) (fun S' f1 f2 => ?_)
    have := h S' (g0.tr f1) (by rw [show l ++ wL w (k + 1) = l ++ [byI w k] ++ wL w k by simp [wL]]; exact f2)
    rw [show (l ++ [byI w k]).length + k = l.length + (k + 1) by simp; omega]
    exact this
set_option maxRecDepth 100000 in
set_option maxHeartbeats 4000000 in
theorem typeC_lp1 {w : Int64} {n : Nat} {o : Option AV} (hn : n ≤ 8) (hbad : allBy w n = false → Q (some (aI (-1))) (mk S)) (h : allBy w n = true → G sc mX9_type 42 [some (aR 0), some (aL w), o, some (aI (nI n)), some (aI (nI n))] [] (mk S) Q) :
    ∀ (d i : Nat), i + d = n → (∀ j, j < i → 32 ≤ (byI w j).toInt ∧ (byI w j).toInt ≤ 126) → G sc mX9_type 16 [some (aR 0), some (aL w), o, some (aI (nI n)), some (aI (nI i))] [] (mk S) Q := by
  intro d
  induction d with
  | zero =>
    intro i hi hj
    have e : i = n := by omega
    subst e
    refine G_iload (pc := 16) dX9_type_16 rfl ?_
    refine G_iload_n (pc := 18) dX9_type_18 rfl rfl ?_
    refine N_icmp_ge (pc := 19) (tgt := 42) dX9_type_19 (by decide) (by omega) (fun c19 => ?_) (fun c19 => absurd c19 (by omega))
    exact h ((allBy_iff i).mpr hj)
  | succ d ih =>
    intro i hi hj
    refine G_iload (pc := 16) dX9_type_16 rfl ?_
    refine G_iload_n (pc := 18) dX9_type_18 rfl rfl ?_
    refine N_icmp_ge (pc := 19) (tgt := 42) dX9_type_19 (by decide) (by omega) (fun c19 => absurd c19 (by omega)) (fun c19 => ?_)
    refine G_lload_n (pc := 22) dX9_type_22 rfl rfl ?_
    refine G_iload (pc := 23) dX9_type_23 rfl ?_
    refine S_callS (av := [_, _]) (pc := 25) (z := mX9_byteOf) dX9_type_25 zX9_byteOf lX9_type_84 rfl (sX9_byteOf (by omega) ⟨_, rfl, ?_⟩)
    refine S_callS (av := [_]) (pc := 28) (z := mX9_isLineByte) dX9_type_28 zX9_isLineByte lX9_type_88 rfl (sX9_isLineByte ⟨_, rfl, ?_⟩)
    refine B_if_ne (pc := 31) (tgt := 36) dX9_type_31 (by decide) (fun c31 => ?_) (fun c31 => ?_)
    · skip
      refine N_iinc (pc := 36) dX9_type_36 rfl (by decide) rfl ?_
      refine G_goto (pc := 39) (tgt := 16) dX9_type_39 (by decide) ?_
      rw [decide_eq_true_eq] at c31
      exact ih (i + 1) (by omega) (fun j hj2 => by
        by_cases e : j = i
        · subst e; exact c31
        · exact hj j (by omega))
    · skip
      refine G_iconst (pc := 34) (v := (-1)) dX9_type_34 (by decide) ?_
      refine S_iret (pc := 35) dX9_type_35 rfl ?_
      refine hbad ?_
      rcases e : allBy w n with _ | _
      · rfl
      · have := (allBy_iff n).mp e i (by omega)
        rw [decide_eq_false_iff_not] at c31
        exact absurd this c31
set_option maxRecDepth 100000 in
set_option maxHeartbeats 4000000 in
theorem sX9_type {w : Int64} {n : Int32} {l : List Int32} (hl : RwIs S 1 l) (hlen : l.length ≤ 60) (hbad : ¬ (1 ≤ n.toInt ∧ n.toInt ≤ 8) ∨ allBy w n.toNatClampNeg = false → Q (some (aI (-1))) (mk S))
    (hfull : 1 ≤ n.toInt ∧ n.toInt ≤ 8 → allBy w n.toNatClampNeg = true → 60 < l.length + n.toNatClampNeg → Q (some (aI (-3))) (mk S))
    (hok : 1 ≤ n.toInt ∧ n.toInt ≤ 8 → allBy w n.toNatClampNeg = true → l.length + n.toNatClampNeg ≤ 60 → ∀ S', Fr tpX' tpA' S S' → RwIs S' 1 (l ++ wL w n.toNatClampNeg) → Q (some (aI (nI (l.length + n.toNatClampNeg)))) (mk S')) : CT sc mX9_type [aR 0, aL w, aI n] (mk S) Q := by
  refine S_of (by decide) rfl ?_
  show G sc mX9_type 0 [some (aR 0), some (aL w), none, some (aI n), none] [] (mk S) Q
  have z1 : (nI 1).toInt = 1 := rfl
  have z8 : (nI 8).toInt = 8 := rfl
  by_cases c : 1 ≤ n.toInt ∧ n.toInt ≤ 8
  · have en : n = nI n.toInt.toNat := nI_ofT (by omega)
    have ec : n.toNatClampNeg = n.toInt.toNat := nI_clampT (by omega)
    rw [ec] at hbad hfull hok
    have hk : 1 ≤ n.toInt.toNat ∧ n.toInt.toNat ≤ 8 := by omega
    have hb2 : allBy w n.toInt.toNat = false → Q (some (aI (-1))) (mk S) := fun q => hbad (Or.inr q)
    have hf2 := hfull c
    have ho2 := hok c
    clear hbad hfull hok ec
    generalize n.toInt.toNat = k at en hk hb2 hf2 ho2
    subst en
    refine G_iload_n (pc := 0) dX9_type_0 rfl rfl ?_
    refine G_iconst (pc := 1) (v := nI 1) dX9_type_1 (by decide) ?_
    refine N_icmp_lt (pc := 2) (tgt := 11) dX9_type_2 (by decide) (by omega) (fun c2 => absurd c2 (by omega)) (fun c2 => ?_)
    refine G_iload_n (pc := 5) dX9_type_5 rfl rfl ?_
    refine G_bipush (pc := 6) (v := nI 8) dX9_type_6 (by decide) ?_
    refine N_icmp_le (pc := 8) (tgt := 13) dX9_type_8 (by decide) (by omega) (fun c8 => ?_) (fun c8 => absurd c8 (by omega))
    refine G_iconst (pc := 13) (v := nI 0) dX9_type_13 (by decide) ?_
    refine G_istore (pc := 14) dX9_type_14 (by decide) rfl ?_
    refine typeC_lp1 (by omega) hb2 (fun hA => ?_) k 0 (by omega) (fun j hj => by omega)
    refine G_aload_n (pc := 42) dX9_type_42 rfl rfl ?_
    refine S_getR (pc := 43) (b := 1) dX9_type_43 fX9_14 rfl rfl (by first | rfl | assumption) rfl rfl ?_
    refine S_getI (pc := 46) dX9_type_46 fX9_92 rfl (by first | rfl | assumption) rfl ?_
    rw [hl.1]
    refine G_iload_n (pc := 49) dX9_type_49 rfl rfl ?_
    refine N_iadd (pc := 50) dX9_type_50 ?_
    refine G_bipush (pc := 51) (v := nI 60) dX9_type_51 (by decide) ?_
    refine N_icmp_le (pc := 53) (tgt := 59) dX9_type_53 (by decide) (by omega) (fun c53 => ?_) (fun c53 => ?_)
    · skip
      refine G_iload_n (pc := 59) dX9_type_59 rfl rfl ?_
      refine G_iconst (pc := 60) (v := nI 1) dX9_type_60 (by decide) ?_
      refine G_isub (pc := 61) dX9_type_61 ?_
      refine G_istore (pc := 62) dX9_type_62 (by decide) rfl ?_
      exact typeC_lp2 k S l (by omega) hA hl (by omega) (ho2 hA (by omega))
    · skip
      refine G_bipush (pc := 56) (v := (-3)) dX9_type_56 (by decide) ?_
      refine S_iret (pc := 58) dX9_type_58 rfl ?_
      exact hf2 hA (by omega)
  · skip
    refine G_iload_n (pc := 0) dX9_type_0 rfl rfl ?_
    refine G_iconst (pc := 1) (v := nI 1) dX9_type_1 (by decide) ?_
    refine T_icmp_lt (pc := 2) (tgt := 11) dX9_type_2 (by decide) (fun c2 => ?_) (fun c2 => ?_)
    · skip
      refine G_iconst (pc := 11) (v := (-1)) dX9_type_11 (by decide) ?_
      refine S_iret (pc := 12) dX9_type_12 rfl ?_
      exact hbad (Or.inl c)
    · skip
      refine G_iload_n (pc := 5) dX9_type_5 rfl rfl ?_
      refine G_bipush (pc := 6) (v := nI 8) dX9_type_6 (by decide) ?_
      refine T_icmp_le (pc := 8) (tgt := 13) dX9_type_8 (by decide) (fun c8 => absurd c8 (by omega)) (fun c8 => ?_)
      refine G_iconst (pc := 11) (v := (-1)) dX9_type_11 (by decide) ?_
      refine S_iret (pc := 12) dX9_type_12 rfl ?_
      exact hbad (Or.inl c)
set_option maxRecDepth 100000 in
set_option maxHeartbeats 4000000 in
theorem sX9_thing {l : List Int32} {k : Nat} (hl : RwIs S 1 l) (hlen : l.length ≤ 60) (hby : LBy l) (hk : k ≤ 12) (hth : S.1 0 3 = nI k)
    (hnot : ¬ (1 ≤ l.length ∧ l.length ≤ 16) → Q (some (aI (-2))) (mk (upX S 1 1 (nI 0)))) (hfull : 1 ≤ l.length ∧ l.length ≤ 16 → k = 12 → Q (some (aI (-3))) (mk (upX S 1 1 (nI 0))))
    (hok : 1 ≤ l.length ∧ l.length ≤ 16 → k < 12 → ∀ S', Fr (atX k) (atA k) S S' → S'.1 0 3 = nI (k + 1) → LnIs S' (289 + 7 * k) (fun j => l.getD j 0) l.length → PlIs S' (289 + 7 * k) (fun j => l.getD j 0) l.length → Q (some (aI (nI k))) (mk (upX S' 1 1 (nI 0)))) : CT sc mX9_thing [aR 0] (mk S) Q := by
  refine S_of (by decide) rfl ?_
  show G sc mX9_thing 0 [some (aR 0), none] [] (mk S) Q
  by_cases c : 1 ≤ l.length ∧ l.length ≤ 16
  · skip
    refine G_aload_n (pc := 0) dX9_thing_0 rfl rfl ?_
    refine S_getR (pc := 1) (b := 1) dX9_thing_1 fX9_14 rfl rfl (by first | rfl | assumption) rfl rfl ?_
    refine S_getI (pc := 4) dX9_thing_4 fX9_92 rfl (by first | rfl | assumption) rfl ?_
    rw [hl.1]
    refine G_iconst (pc := 7) (v := nI 1) dX9_thing_7 (by decide) ?_
    refine N_icmp_lt (pc := 8) (tgt := 23) dX9_thing_8 (by decide) (by omega) (fun c8 => absurd c8 (by omega)) (fun c8 => ?_)
    refine G_aload_n (pc := 11) dX9_thing_11 rfl rfl ?_
    refine S_getR (pc := 12) (b := 1) dX9_thing_12 fX9_14 rfl rfl (by first | rfl | assumption) rfl rfl ?_
    refine S_getI (pc := 15) dX9_thing_15 fX9_92 rfl (by first | rfl | assumption) rfl ?_
    rw [hl.1]
    refine G_bipush (pc := 18) (v := nI 16) dX9_thing_18 (by decide) ?_
    refine N_icmp_le (pc := 20) (tgt := 28) dX9_thing_20 (by decide) (by omega) (fun c20 => ?_) (fun c20 => absurd c20 (by omega))
    refine G_aload_n (pc := 28) dX9_thing_28 rfl rfl ?_
    refine G_aload_n (pc := 29) dX9_thing_29 rfl rfl ?_
    refine S_getR (pc := 30) (b := 1) dX9_thing_30 fX9_14 rfl rfl (by first | rfl | assumption) rfl rfl ?_
    refine S_callV (av := [_]) (pc := 33) (z := mX9_addThing) (ci := 8) dX9_thing_33 zX9_addThing lX9_thing_98 rfl (by first | rfl | assumption) rfl rfl (sX9_addThing RwK_p (by omega) hl hby c.2 (by omega) hk hth (fun e => ⟨_, rfl, ?_⟩) (fun e S1 w1 w2 w3 w4 => ⟨_, rfl, ?_⟩))
    · skip
      have h := hfull c e
      refine G_istore_n (pc := 36) dX9_thing_36 rfl (by decide) rfl ?_
      refine G_aload_n (pc := 37) dX9_thing_37 rfl rfl ?_
      refine S_getR (pc := 38) (b := 1) dX9_thing_38 fX9_14 rfl rfl (by first | rfl | assumption) rfl rfl ?_
      refine S_callV (av := []) (pc := 41) (z := mX4_clear) (ci := 3) dX9_thing_41 zX4_clear lX9_thing_102 rfl (by first | rfl | assumption) rfl rfl (sX4_clear RwK_p ⟨_, rfl, ?_⟩)
      refine G_iload_n (pc := 44) dX9_thing_44 rfl rfl ?_
      refine S_iret (pc := 45) dX9_thing_45 rfl ?_
      exact h
    have h := hok c e S1 w1 w2 w3 w4
    refine G_istore_n (pc := 36) dX9_thing_36 rfl (by decide) rfl ?_
    refine G_aload_n (pc := 37) dX9_thing_37 rfl rfl ?_
    refine S_getR (pc := 38) (b := 1) dX9_thing_38 fX9_14 rfl rfl (by first | rfl | assumption) rfl rfl ?_
    refine S_callV (av := []) (pc := 41) (z := mX4_clear) (ci := 3) dX9_thing_41 zX4_clear lX9_thing_102 rfl (by first | rfl | assumption) rfl rfl (sX4_clear RwK_p ⟨_, rfl, ?_⟩)
    refine G_iload_n (pc := 44) dX9_thing_44 rfl rfl ?_
    refine S_iret (pc := 45) dX9_thing_45 rfl ?_
    exact h
  · have h := hnot c
    refine G_aload_n (pc := 0) dX9_thing_0 rfl rfl ?_
    refine S_getR (pc := 1) (b := 1) dX9_thing_1 fX9_14 rfl rfl (by first | rfl | assumption) rfl rfl ?_
    refine S_getI (pc := 4) dX9_thing_4 fX9_92 rfl (by first | rfl | assumption) rfl ?_
    rw [hl.1]
    refine G_iconst (pc := 7) (v := nI 1) dX9_thing_7 (by decide) ?_
    refine N_icmp_lt (pc := 8) (tgt := 23) dX9_thing_8 (by decide) (by omega) (fun c8 => ?_) (fun c8 => ?_)
    · skip
      refine G_bipush (pc := 23) (v := (-2)) dX9_thing_23 (by decide) ?_
      refine G_goto (pc := 25) (tgt := 36) dX9_thing_25 (by decide) ?_
      refine G_istore_n (pc := 36) dX9_thing_36 rfl (by decide) rfl ?_
      refine G_aload_n (pc := 37) dX9_thing_37 rfl rfl ?_
      refine S_getR (pc := 38) (b := 1) dX9_thing_38 fX9_14 rfl rfl (by first | rfl | assumption) rfl rfl ?_
      refine S_callV (av := []) (pc := 41) (z := mX4_clear) (ci := 3) dX9_thing_41 zX4_clear lX9_thing_102 rfl (by first | rfl | assumption) rfl rfl (sX4_clear RwK_p ⟨_, rfl, ?_⟩)
      refine G_iload_n (pc := 44) dX9_thing_44 rfl rfl ?_
      refine S_iret (pc := 45) dX9_thing_45 rfl ?_
      exact h
    · skip
      refine G_aload_n (pc := 11) dX9_thing_11 rfl rfl ?_
      refine S_getR (pc := 12) (b := 1) dX9_thing_12 fX9_14 rfl rfl (by first | rfl | assumption) rfl rfl ?_
      refine S_getI (pc := 15) dX9_thing_15 fX9_92 rfl (by first | rfl | assumption) rfl ?_
      rw [hl.1]
      refine G_bipush (pc := 18) (v := nI 16) dX9_thing_18 (by decide) ?_
      refine N_icmp_le (pc := 20) (tgt := 28) dX9_thing_20 (by decide) (by omega) (fun c20 => absurd c20 (by omega)) (fun c20 => ?_)
      refine G_bipush (pc := 23) (v := (-2)) dX9_thing_23 (by decide) ?_
      refine G_goto (pc := 25) (tgt := 36) dX9_thing_25 (by decide) ?_
      refine G_istore_n (pc := 36) dX9_thing_36 rfl (by decide) rfl ?_
      refine G_aload_n (pc := 37) dX9_thing_37 rfl rfl ?_
      refine S_getR (pc := 38) (b := 1) dX9_thing_38 fX9_14 rfl rfl (by first | rfl | assumption) rfl rfl ?_
      refine S_callV (av := []) (pc := 41) (z := mX4_clear) (ci := 3) dX9_thing_41 zX4_clear lX9_thing_102 rfl (by first | rfl | assumption) rfl rfl (sX4_clear RwK_p ⟨_, rfl, ?_⟩)
      refine G_iload_n (pc := 44) dX9_thing_44 rfl rfl ?_
      refine S_iret (pc := 45) dX9_thing_45 rfl ?_
      exact h
/-- a thing is shown in the class -/
abbrev swX (k : Nat) (a j : Nat) : Prop := (a = 0 ∧ (j = 5 ∨ j = 6)) ∨ (a = 289 + 7 * k ∧ j = 3) ∨ (a = 289 + 7 * k + 4 ∧ j = 1)
abbrev swA (k : Nat) (a : Nat) : Prop := a = 289 + 7 * k + 4 + 1 ∨ a = 289 + 7 * k + 6
set_option maxRecDepth 100000 in
set_option maxHeartbeats 4000000 in
theorem sX9_showTapeOf {S0 : ST} {l : List Int32} {k : Nat} (ha : MIa S0) (hb : MIb S0) (hC : CTh S0 S) (hl : RwIs S 1 l) (hlen : l.length ≤ 60) (hby : LBy l) (hk : k < thN S0)
    (hnot : ¬ (1 ≤ l.length ∧ l.length ≤ 12) → Q (some (aI (-2))) (mk S)) (hfull : 1 ≤ l.length ∧ l.length ≤ 12 → ¬ stN S0 k = 1 ∧ 4 ≤ cntS S0 (nI 1) (thN S0) → Q (some (aI (-3))) (mk S))
    (hok : 1 ≤ l.length ∧ l.length ≤ 12 → ¬ (¬ stN S0 k = 1 ∧ 4 ≤ cntS S0 (nI 1) (thN S0)) → ∀ S', Fr (swX k) (swA k) S S' → S'.1 0 5 = nI 0 → S'.1 0 6 = -1 → S'.1 (289 + 7 * k) 3 = nI 1 → EnIs S' (289 + 7 * k) (fun j => l.getD j 0) l.length → SpIs S' (289 + 7 * k) (lnB S0 k) (szN S0 k) (fun j => l.getD j 0) l.length → ∃ S1, MIb S1 ∧ thN S1 ≤ 12 ∧ CTh S1 S' ∧ Q (some (aI (nI (cntS S1 (nI 1) (thN S1))))) (mk S')) : CT sc mX9_showTapeOf [aR 0, aR (289 + 7 * k)] (mk S) Q := by
  refine S_of (by decide) rfl ?_
  show G sc mX9_showTapeOf 0 [some (aR 0), some (aR (289 + 7 * k))] [] (mk S) Q
  have hth := thB ha
  have hK := ThK_t k (by omega)
  obtain ⟨k0, k1, k2, k3, k4, k5, k6⟩ := id hK
  have hc := (hC.2 k (by omega)).1 hk
  obtain ⟨⟨b1, b2⟩, -⟩ := hb k hk
  obtain ⟨y1, y2, y3, y4⟩ := ha.2 k hk
  have hcn := cntS_le S0 (nI 1) (thN S0)
  by_cases c : 1 ≤ l.length ∧ l.length ≤ 12
  · have K46 : ¬ (¬ stN S0 k = 1 ∧ 4 ≤ cntS S0 (nI 1) (thN S0)) → G sc mX9_showTapeOf 46 [some (aR 0), some (aR (289 + 7 * k))] [] (mk S) Q := by
      intro hnf
      have hok := hok c hnf
      refine G_aload_n (pc := 46) dX9_showTapeOf_46 rfl rfl ?_
      refine S_getR (pc := 47) (b := 289 + 7 * k + 4) dX9_showTapeOf_47 fX9_199 rfl rfl (by first | rfl | assumption) rfl rfl ?_
      refine G_aload_n (pc := 50) dX9_showTapeOf_50 rfl rfl ?_
      refine S_getR (pc := 51) (b := 1) dX9_showTapeOf_51 fX9_14 rfl rfl (by first | rfl | assumption) rfl rfl ?_
      refine S_callV (av := [_]) (pc := 54) (z := mX4_copyOf) (ci := 3) dX9_showTapeOf_54 zX4_copyOf lX9_showTapeOf_239 rfl (by first | rfl | assumption) rfl rfl (sX4_copyOf (a := 289 + 7 * k + 4) (c := 1) ⟨k4, k5, rfl⟩ RwK_p (by omega) (by omega) (by omega) hby hl (fun S1 w1 w2 => ⟨_, rfl, ?_⟩))
      refine G_aload_n (pc := 57) dX9_showTapeOf_57 rfl rfl ?_
      refine G_iconst (pc := 58) (v := nI 1) dX9_showTapeOf_58 (by decide) ?_
      refine S_putI (pc := 59) dX9_showTapeOf_59 fX9_145 (by decide) rfl (by first | rfl | assumption) rfl ?_
      have w3 : EnIs S1 (289 + 7 * k) (fun j => l.getD j 0) l.length := w2
      have g1 : Fr (swX k) (swA k) S S1 := w1.mono (fun a j q => Or.inr (Or.inr q)) (fun a q => Or.inl q)
      have g2 : Fr (swX k) (swA k) S1 (upX S1 (289 + 7 * k) 3 (nI 1)) := Fr.upX (Or.inr (Or.inl ⟨rfl, rfl⟩))
      have hln : LnIs (upX S1 (289 + 7 * k) 3 (nI 1)) (289 + 7 * k) (lnB S0 k) (szN S0 k) := hc.1.fr (g1.tr g2) (by omega) (by omega)
      have hen : EnIs (upX S1 (289 + 7 * k) 3 (nI 1)) (289 + 7 * k) (fun j => l.getD j 0) l.length := ⟨(upX_n (by omega)).trans w3.1, w3.2⟩
      refine G_aload_n (pc := 62) dX9_showTapeOf_62 rfl rfl ?_
      refine S_callV (av := []) (pc := 63) (z := mX8_compareSpans) (ci := 7) dX9_showTapeOf_63 zX8_compareSpans lX9_showTapeOf_246 rfl (by first | rfl | assumption) rfl rfl (sX8_compareSpans hK y3 c.2 hln hen (fun S2 x1 x2 => ⟨_, rfl, ?_⟩))
      refine G_aload_n (pc := 66) dX9_showTapeOf_66 rfl rfl ?_
      refine S_callV (av := []) (pc := 67) (z := mX9_showingChanged) (ci := 8) dX9_showTapeOf_67 zX9_showingChanged lX9_showTapeOf_148 rfl (by first | rfl | assumption) rfl rfl (sX9_showingChanged ⟨_, rfl, ?_⟩)
      have g3 : Fr (swX k) (swA k) (upX S1 (289 + 7 * k) 3 (nI 1)) S2 := x1.mono (fun a j q => q.elim) (fun a q => Or.inr q)
      have g4 : Fr (swX k) (swA k) S2 (upX (upX S2 0 5 (nI 0)) 0 6 (-1)) := Fr.tr (Fr.upX (Or.inl ⟨rfl, Or.inl rfl⟩)) (Fr.upX (Or.inl ⟨rfl, Or.inr rfl⟩))
      have hen2 := hen.fr x1 (by simp) (by show ¬ _ = _; omega)
      have e3 : (upX (upX S2 0 5 (nI 0)) 0 6 (-1)).1 (289 + 7 * k) 3 = nI 1 := by rw [upX_n (by omega), upX_n (by omega), x1.1 _ _ (by simp), upX_s]
      obtain ⟨T, t1, t2, t3, t4⟩ := hok _ (g1.tr (g2.tr (g3.tr g4))) (by rw [upX_n (by omega), upX_s]) upX_s e3 ⟨by rw [upX_n (by omega), upX_n (by omega)]; exact hen2.1, hen2.2⟩ x2
      refine G_aload_n (pc := 70) dX9_showTapeOf_70 rfl rfl ?_
      refine G_iconst (pc := 71) (v := nI 1) dX9_showTapeOf_71 (by decide) ?_
      refine S_callV (av := [_]) (pc := 72) (z := mX9_howMany) (ci := 8) dX9_showTapeOf_72 zX9_howMany lX9_showTapeOf_151 rfl (by first | rfl | assumption) rfl rfl (sX9_howMany t1 t2 t3 ⟨_, rfl, ?_⟩)
      refine S_iret (pc := 75) dX9_showTapeOf_75 rfl ?_
      exact t4
    refine G_aload_n (pc := 0) dX9_showTapeOf_0 rfl rfl ?_
    refine S_getR (pc := 1) (b := 1) dX9_showTapeOf_1 fX9_14 rfl rfl (by first | rfl | assumption) rfl rfl ?_
    refine S_getI (pc := 4) dX9_showTapeOf_4 fX9_92 rfl (by first | rfl | assumption) rfl ?_
    rw [hl.1]
    refine G_iconst (pc := 7) (v := nI 1) dX9_showTapeOf_7 (by decide) ?_
    refine N_icmp_lt (pc := 8) (tgt := 23) dX9_showTapeOf_8 (by decide) (by omega) (fun c8 => absurd c8 (by omega)) (fun c8 => ?_)
    refine G_aload_n (pc := 11) dX9_showTapeOf_11 rfl rfl ?_
    refine S_getR (pc := 12) (b := 1) dX9_showTapeOf_12 fX9_14 rfl rfl (by first | rfl | assumption) rfl rfl ?_
    refine S_getI (pc := 15) dX9_showTapeOf_15 fX9_92 rfl (by first | rfl | assumption) rfl ?_
    rw [hl.1]
    refine G_bipush (pc := 18) (v := nI 12) dX9_showTapeOf_18 (by decide) ?_
    refine N_icmp_le (pc := 20) (tgt := 26) dX9_showTapeOf_20 (by decide) (by omega) (fun c20 => ?_) (fun c20 => absurd c20 (by omega))
    refine G_aload_n (pc := 26) dX9_showTapeOf_26 rfl rfl ?_
    refine S_getI (pc := 27) dX9_showTapeOf_27 fX9_145 rfl (by first | rfl | assumption) rfl ?_
    rw [hc.2.2.1]
    refine G_iconst (pc := 30) (v := nI 1) dX9_showTapeOf_30 (by decide) ?_
    refine N_icmp_eq (pc := 31) (tgt := 46) dX9_showTapeOf_31 (by decide) (by omega) (fun c31 => ?_) (fun c31 => ?_)
    · skip
      first
      | exact K46 (fun q => q.1 c31)
      | exact K46 (fun q => by omega)
    · skip
      refine G_aload_n (pc := 34) dX9_showTapeOf_34 rfl rfl ?_
      refine G_iconst (pc := 35) (v := nI 1) dX9_showTapeOf_35 (by decide) ?_
      refine S_callV (av := [_]) (pc := 36) (z := mX9_howMany) (ci := 8) dX9_showTapeOf_36 zX9_howMany lX9_showTapeOf_151 rfl (by first | rfl | assumption) rfl rfl (sX9_howMany hb hth hC ⟨_, rfl, ?_⟩)
      refine G_iconst (pc := 39) (v := nI 4) dX9_showTapeOf_39 (by decide) ?_
      refine N_icmp_lt (pc := 40) (tgt := 46) dX9_showTapeOf_40 (by decide) (by omega) (fun c40 => ?_) (fun c40 => ?_)
      · skip
        first
        | exact K46 (fun q => q.1 c31)
        | exact K46 (fun q => by omega)
      · skip
        refine G_bipush (pc := 43) (v := (-3)) dX9_showTapeOf_43 (by decide) ?_
        refine S_iret (pc := 45) dX9_showTapeOf_45 rfl ?_
        exact hfull c ⟨c31, by omega⟩
  · have h := hnot c
    refine G_aload_n (pc := 0) dX9_showTapeOf_0 rfl rfl ?_
    refine S_getR (pc := 1) (b := 1) dX9_showTapeOf_1 fX9_14 rfl rfl (by first | rfl | assumption) rfl rfl ?_
    refine S_getI (pc := 4) dX9_showTapeOf_4 fX9_92 rfl (by first | rfl | assumption) rfl ?_
    rw [hl.1]
    refine G_iconst (pc := 7) (v := nI 1) dX9_showTapeOf_7 (by decide) ?_
    refine N_icmp_lt (pc := 8) (tgt := 23) dX9_showTapeOf_8 (by decide) (by omega) (fun c8 => ?_) (fun c8 => ?_)
    · skip
      refine G_bipush (pc := 23) (v := (-2)) dX9_showTapeOf_23 (by decide) ?_
      refine S_iret (pc := 25) dX9_showTapeOf_25 rfl ?_
      exact h
    · skip
      refine G_aload_n (pc := 11) dX9_showTapeOf_11 rfl rfl ?_
      refine S_getR (pc := 12) (b := 1) dX9_showTapeOf_12 fX9_14 rfl rfl (by first | rfl | assumption) rfl rfl ?_
      refine S_getI (pc := 15) dX9_showTapeOf_15 fX9_92 rfl (by first | rfl | assumption) rfl ?_
      rw [hl.1]
      refine G_bipush (pc := 18) (v := nI 12) dX9_showTapeOf_18 (by decide) ?_
      refine N_icmp_le (pc := 20) (tgt := 26) dX9_showTapeOf_20 (by decide) (by omega) (fun c20 => absurd c20 (by omega)) (fun c20 => ?_)
      refine G_bipush (pc := 23) (v := (-2)) dX9_showTapeOf_23 (by decide) ?_
      refine S_iret (pc := 25) dX9_showTapeOf_25 rfl ?_
      exact h
set_option maxRecDepth 100000 in
set_option maxHeartbeats 4000000 in
theorem sX9_show {S0 : ST} {l : List Int32} {t : Int32} (ha : MIa S0) (hb : MIb S0) (hC : CTh S0 S) (hl : RwIs S 1 l) (hlen : l.length ≤ 60) (hby : LBy l) (hbad : isTh (thN S0) t = false → Q (some (aI (-1))) (mk S))
    (hnot : ∀ k, t = nI k → k < thN S0 → ¬ (1 ≤ l.length ∧ l.length ≤ 12) → Q (some (aI (-2))) (mk (upX S 1 1 (nI 0)))) (hfull : ∀ k, t = nI k → k < thN S0 → 1 ≤ l.length ∧ l.length ≤ 12 → ¬ stN S0 k = 1 ∧ 4 ≤ cntS S0 (nI 1) (thN S0) → Q (some (aI (-3))) (mk (upX S 1 1 (nI 0))))
    (hok : ∀ k, t = nI k → k < thN S0 → 1 ≤ l.length ∧ l.length ≤ 12 → ¬ (¬ stN S0 k = 1 ∧ 4 ≤ cntS S0 (nI 1) (thN S0)) → ∀ S', Fr (swX k) (swA k) S S' → S'.1 0 5 = nI 0 → S'.1 0 6 = -1 → S'.1 (289 + 7 * k) 3 = nI 1 → EnIs S' (289 + 7 * k) (fun j => l.getD j 0) l.length → SpIs S' (289 + 7 * k) (lnB S0 k) (szN S0 k) (fun j => l.getD j 0) l.length → ∃ S1, MIb S1 ∧ thN S1 ≤ 12 ∧ CTh S1 S' ∧ Q (some (aI (nI (cntS S1 (nI 1) (thN S1))))) (mk (upX S' 1 1 (nI 0)))) : CT sc mX9_show [aR 0, aI t] (mk S) Q := by
  refine S_of (by decide) rfl ?_
  show G sc mX9_show 0 [some (aR 0), some (aI t), none] [] (mk S) Q
  have hth := thB ha
  rcases hT : isTh (thN S0) t with _ | _
  · skip
    refine G_aload_n (pc := 0) dX9_show_0 rfl rfl ?_
    refine G_iload_n (pc := 1) dX9_show_1 rfl rfl ?_
    refine S_callV (av := [_]) (pc := 2) (z := mX9_isThing) (ci := 8) dX9_show_2 zX9_isThing lX9_show_122 rfl (by first | rfl | assumption) rfl rfl (sX9_isThing hC.1 (by omega) ⟨_, rfl, ?_⟩)
    rw [hT]
    refine B_if_ne (pc := 5) (tgt := 10) dX9_show_5 (by decide) (fun c5 => absurd c5 (by decide)) (fun c5 => ?_)
    refine G_iconst (pc := 8) (v := (-1)) dX9_show_8 (by decide) ?_
    refine S_iret (pc := 9) dX9_show_9 rfl ?_
    exact hbad hT
  · obtain ⟨k, rfl, hk, hk2⟩ := isTh_k hT (by omega)
    have K20 : ∀ S1 x, Q (some (aI x)) (mk (upX S1 1 1 (nI 0))) → G sc mX9_show 20 [some (aR 0), some (aI (nI k)), none] [aI x] (mk S1) Q := by
      intro S1 x h
      refine G_istore_n (pc := 20) dX9_show_20 rfl (by decide) rfl ?_
      refine G_aload_n (pc := 21) dX9_show_21 rfl rfl ?_
      refine S_getR (pc := 22) (b := 1) dX9_show_22 fX9_14 rfl rfl (by first | rfl | assumption) rfl rfl ?_
      refine S_callV (av := []) (pc := 25) (z := mX4_clear) (ci := 3) dX9_show_25 zX4_clear lX9_show_102 rfl (by first | rfl | assumption) rfl rfl (sX4_clear RwK_p ⟨_, rfl, ?_⟩)
      refine G_iload_n (pc := 28) dX9_show_28 rfl rfl ?_
      refine S_iret (pc := 29) dX9_show_29 rfl ?_
      exact h
    refine G_aload_n (pc := 0) dX9_show_0 rfl rfl ?_
    refine G_iload_n (pc := 1) dX9_show_1 rfl rfl ?_
    refine S_callV (av := [_]) (pc := 2) (z := mX9_isThing) (ci := 8) dX9_show_2 zX9_isThing lX9_show_122 rfl (by first | rfl | assumption) rfl rfl (sX9_isThing hC.1 (by omega) ⟨_, rfl, ?_⟩)
    rw [hT]
    refine B_if_ne (pc := 5) (tgt := 10) dX9_show_5 (by decide) (fun c5 => ?_) (fun c5 => absurd c5 (by decide))
    refine G_aload_n (pc := 10) dX9_show_10 rfl rfl ?_
    refine G_aload_n (pc := 11) dX9_show_11 rfl rfl ?_
    refine S_getR (pc := 12) (b := 5) dX9_show_12 fX9_23 rfl rfl (by first | rfl | assumption) rfl rfl ?_
    refine G_iload_n (pc := 15) dX9_show_15 rfl rfl ?_
    refine N_aald (pc := 16) (t := 3) (n := 12) (b := 289 + 7 * k) dX9_show_16 (by first | rfl | assumption) (by first | rfl | assumption) (by decide) (by omega) rfl ?_
    refine S_callV (av := [_]) (pc := 17) (z := mX9_showTapeOf) (ci := 8) dX9_show_17 zX9_showTapeOf lX9_show_141 rfl (by first | rfl | assumption) rfl rfl (sX9_showTapeOf ha hb hC hl hlen hby hk (fun c => ⟨_, rfl, K20 _ _ (hnot k rfl hk c)⟩) (fun c q => ⟨_, rfl, K20 _ _ (hfull k rfl hk c q)⟩) (fun c q S1 w1 w2 w3 w4 w5 w6 => (hok k rfl hk c q S1 w1 w2 w3 w4 w5 w6).imp (fun T q => ⟨q.1, q.2.1, q.2.2.1, _, rfl, K20 _ _ q.2.2.2⟩)))
    skip
set_option maxRecDepth 100000 in
set_option maxHeartbeats 4000000 in
theorem sX9_forget {S0 : ST} {t : Int32} (ha : MIa S0) (hb : MIb S0) (hC : CTh S0 S) (hbad : isTh (thN S0) t = false → Q (some (aI (-1))) (mk S)) (hnot : isTh (thN S0) t = true → ¬ stN S0 t.toNatClampNeg = 1 → Q (some (aI (-2))) (mk S))
    (hok : ∀ k, t = nI k → k < thN S0 → stN S0 k = 1 → ∃ S1, MIb S1 ∧ thN S1 ≤ 12 ∧ CTh S1 (upX (upX (upX S (289 + 7 * k) 3 (nI 0)) 0 5 (nI 0)) 0 6 (-1)) ∧ Q (some (aI (nI (cntS S1 (nI 1) (thN S1))))) (mk (upX (upX (upX S (289 + 7 * k) 3 (nI 0)) 0 5 (nI 0)) 0 6 (-1)))) : CT sc mX9_forget [aR 0, aI t] (mk S) Q := by
  refine S_of (by decide) rfl ?_
  show G sc mX9_forget 0 [some (aR 0), some (aI t)] [] (mk S) Q
  have hth := thB ha
  rcases hT : isTh (thN S0) t with _ | _
  · skip
    refine G_aload_n (pc := 0) dX9_forget_0 rfl rfl ?_
    refine G_iload_n (pc := 1) dX9_forget_1 rfl rfl ?_
    refine S_callV (av := [_]) (pc := 2) (z := mX9_isThing) (ci := 8) dX9_forget_2 zX9_isThing lX9_forget_122 rfl (by first | rfl | assumption) rfl rfl (sX9_isThing hC.1 (by omega) ⟨_, rfl, ?_⟩)
    rw [hT]
    refine B_if_ne (pc := 5) (tgt := 10) dX9_forget_5 (by decide) (fun c5 => absurd c5 (by decide)) (fun c5 => ?_)
    refine G_iconst (pc := 8) (v := (-1)) dX9_forget_8 (by decide) ?_
    refine S_iret (pc := 9) dX9_forget_9 rfl ?_
    exact hbad hT
  · obtain ⟨k, rfl, hk, hk2⟩ := isTh_k hT (by omega)
    obtain ⟨k0, k1, k2, k3, k4, k5, k6⟩ := ThK_t k (by omega)
    have hc := (hC.2 k (by omega)).1 hk
    obtain ⟨⟨b1, b2⟩, -⟩ := hb k hk
    rw [hk2] at hnot
    refine G_aload_n (pc := 0) dX9_forget_0 rfl rfl ?_
    refine G_iload_n (pc := 1) dX9_forget_1 rfl rfl ?_
    refine S_callV (av := [_]) (pc := 2) (z := mX9_isThing) (ci := 8) dX9_forget_2 zX9_isThing lX9_forget_122 rfl (by first | rfl | assumption) rfl rfl (sX9_isThing hC.1 (by omega) ⟨_, rfl, ?_⟩)
    rw [hT]
    refine B_if_ne (pc := 5) (tgt := 10) dX9_forget_5 (by decide) (fun c5 => ?_) (fun c5 => absurd c5 (by decide))
    refine G_aload_n (pc := 10) dX9_forget_10 rfl rfl ?_
    refine S_getR (pc := 11) (b := 5) dX9_forget_11 fX9_23 rfl rfl (by first | rfl | assumption) rfl rfl ?_
    refine G_iload_n (pc := 14) dX9_forget_14 rfl rfl ?_
    refine N_aald (pc := 15) (t := 3) (n := 12) (b := 289 + 7 * k) dX9_forget_15 (by first | rfl | assumption) (by first | rfl | assumption) (by decide) (by omega) rfl ?_
    refine S_getI (pc := 16) dX9_forget_16 fX9_145 rfl (by first | rfl | assumption) rfl ?_
    rw [hc.2.2.1]
    refine G_iconst (pc := 19) (v := nI 1) dX9_forget_19 (by decide) ?_
    refine N_icmp_eq (pc := 20) (tgt := 26) dX9_forget_20 (by decide) (by omega) (fun c20 => ?_) (fun c20 => ?_)
    · skip
      refine G_aload_n (pc := 26) dX9_forget_26 rfl rfl ?_
      refine S_getR (pc := 27) (b := 5) dX9_forget_27 fX9_23 rfl rfl (by first | rfl | assumption) rfl rfl ?_
      refine G_iload_n (pc := 30) dX9_forget_30 rfl rfl ?_
      refine N_aald (pc := 31) (t := 3) (n := 12) (b := 289 + 7 * k) dX9_forget_31 (by first | rfl | assumption) (by first | rfl | assumption) (by decide) (by omega) rfl ?_
      refine G_iconst (pc := 32) (v := nI 0) dX9_forget_32 (by decide) ?_
      refine S_putI (pc := 33) dX9_forget_33 fX9_145 (by decide) rfl (by first | rfl | assumption) rfl ?_
      refine G_aload_n (pc := 36) dX9_forget_36 rfl rfl ?_
      refine S_callV (av := []) (pc := 37) (z := mX9_showingChanged) (ci := 8) dX9_forget_37 zX9_showingChanged lX9_forget_148 rfl (by first | rfl | assumption) rfl rfl (sX9_showingChanged ⟨_, rfl, ?_⟩)
      obtain ⟨T, t1, t2, t3, t4⟩ := hok k rfl hk c20
      refine G_aload_n (pc := 40) dX9_forget_40 rfl rfl ?_
      refine G_iconst (pc := 41) (v := nI 1) dX9_forget_41 (by decide) ?_
      refine S_callV (av := [_]) (pc := 42) (z := mX9_howMany) (ci := 8) dX9_forget_42 zX9_howMany lX9_forget_151 rfl (by first | rfl | assumption) rfl rfl (sX9_howMany t1 t2 t3 ⟨_, rfl, ?_⟩)
      refine S_iret (pc := 45) dX9_forget_45 rfl ?_
      exact t4
    · skip
      refine G_bipush (pc := 23) (v := (-2)) dX9_forget_23 (by decide) ?_
      refine S_iret (pc := 25) dX9_forget_25 rfl ?_
      exact hnot hT c20
end C28
