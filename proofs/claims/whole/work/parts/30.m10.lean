/-! the model: sheets -/
def isShB (s l : Int32) : Bool := decide ((0 ≤ s.toInt ∧ s.toInt ≤ 3) ∧ 0 ≤ l.toInt ∧ l.toInt ≤ 2)
def rsN (S : ST) (k : Nat) : Nat := (S.2.1 411 k).toNatClampNeg
/-- sheets: the sizes are numbers -/
def MIc (S : ST) : Prop := ∀ k, k < 4 → (S.2.1 411 k = nI (rsN S k) ∧ rsN S k ≤ 20) ∧ -1 ≤ (S.2.1 410 k).toInt ∧ (S.2.1 410 k).toInt ≤ 2
def lackV (v l : Int32) : Int32 := if v.toInt = l.toInt then nI 0 else if 0 ≤ v.toInt then -12 else -11
theorem isShB_of {s l : Int32} (h : isShB s l = true) : ∃ k q, k < 4 ∧ q < 3 ∧ s = nI k ∧ l = nI q := by
  have h1 := of_decide_eq_true h
  obtain ⟨k, hk, e1⟩ := nI_ex (x := s) (n := 4) h1.1.1 (by omega)
  obtain ⟨q, hq, e2⟩ := nI_ex (x := l) (n := 3) h1.2.1 (by omega)
  exact ⟨k, q, hk, hq, e1, e2⟩
/-- v in a lane -/
def laneV (l : Nat) (v : Int32) : Int32 := if l = 0 then (v <<< (nI 24 &&& 31)) >>> (nI 24 &&& 31) else if l = 1 then (v <<< (nI 16 &&& 31)) >>> (nI 16 &&& 31) else v
section M10
variable {sc : SC} {S : ST} {Q : Option AV → HM → Prop}
set_option maxRecDepth 100000 in
set_option maxHeartbeats 4000000 in
theorem sX10_isSheet {s l : Int32} (h : Q (some (aI (bI (isShB s l)))) (mk S)) : CT sc mX10_isSheet [aI s, aI l] (mk S) Q := by
  refine S_of (by decide) rfl ?_
  show G sc mX10_isSheet 0 [some (aI s), some (aI l)] [] (mk S) Q
  have z0 : (0 : Int64).toInt = 0 := rfl
  have z3 : (3 : Int64).toInt = 3 := rfl
  have z2 : (2 : Int64).toInt = 2 := rfl
  refine G_iload_n (pc := 0) dX10_isSheet_0 rfl rfl ?_
  refine G_i2l (pc := 1) dX10_isSheet_1 ?_
  refine G_lconst (pc := 2) (v := 0) dX10_isSheet_2 (by decide) ?_
  refine G_ldc2 (pc := 3) dX10_isSheet_3 kX10_201 ?_
  refine S_callS (av := [_, _, _]) (pc := 6) (z := mX10_in) dX10_isSheet_6 zX10_in lX10_isSheet_84 rfl (sX10_in ⟨_, rfl, ?_⟩)
  refine B_if_eq (pc := 9) (tgt := 28) dX10_isSheet_9 (by decide) (fun c9 => ?_) (fun c9 => ?_)
  · skip
    rw [decide_eq_false_iff_not, Int32.toInt_toInt64, z0, z3] at c9
    refine G_iconst (pc := 28) (v := nI 0) dX10_isSheet_28 (by decide) ?_
    refine S_zret (pc := 29) dX10_isSheet_29 rfl rfl ?_
    exact q_i h (by first | exact z_f (decide_eq_false (by omega)) | exact z_t (decide_eq_true (by omega)))
  · skip
    rw [decide_eq_true_iff, Int32.toInt_toInt64, z0, z3] at c9
    refine G_iload_n (pc := 12) dX10_isSheet_12 rfl rfl ?_
    refine G_i2l (pc := 13) dX10_isSheet_13 ?_
    refine G_lconst (pc := 14) (v := 0) dX10_isSheet_14 (by decide) ?_
    refine G_ldc2 (pc := 15) dX10_isSheet_15 kX10_322 ?_
    refine S_callS (av := [_, _, _]) (pc := 18) (z := mX10_in) dX10_isSheet_18 zX10_in lX10_isSheet_84 rfl (sX10_in ⟨_, rfl, ?_⟩)
    refine B_if_eq (pc := 21) (tgt := 28) dX10_isSheet_21 (by decide) (fun c21 => ?_) (fun c21 => ?_)
    · skip
      rw [decide_eq_false_iff_not, Int32.toInt_toInt64, z0, z2] at c21
      refine G_iconst (pc := 28) (v := nI 0) dX10_isSheet_28 (by decide) ?_
      refine S_zret (pc := 29) dX10_isSheet_29 rfl rfl ?_
      exact q_i h (by first | exact z_f (decide_eq_false (by omega)) | exact z_t (decide_eq_true (by omega)))
    · skip
      rw [decide_eq_true_iff, Int32.toInt_toInt64, z0, z2] at c21
      refine G_iconst (pc := 24) (v := nI 1) dX10_isSheet_24 (by decide) ?_
      refine G_goto (pc := 25) (tgt := 29) dX10_isSheet_25 (by decide) ?_
      refine S_zret (pc := 29) dX10_isSheet_29 rfl rfl ?_
      exact q_i h (by first | exact z_f (decide_eq_false (by omega)) | exact z_t (decide_eq_true (by omega)))
set_option maxRecDepth 100000 in
set_option maxHeartbeats 4000000 in
theorem sX10_lacksRow {k : Nat} {l : Int32} (hk : k < 4) (h : Q (some (aI (lackV (S.2.1 410 k) l))) (mk S)) : CT sc mX10_lacksRow [aR 389, aI (nI k), aI l] (mk S) Q := by
  refine S_of (by decide) rfl ?_
  show G sc mX10_lacksRow 0 [some (aR 389), some (aI (nI k)), some (aI l)] [] (mk S) Q
  refine G_aload_n (pc := 0) dX10_lacksRow_0 rfl rfl ?_
  refine S_getR (pc := 1) (b := 410) dX10_lacksRow_1 fX10_71 rfl rfl (by first | rfl | assumption) rfl rfl ?_
  refine G_iload_n (pc := 4) dX10_lacksRow_4 rfl rfl ?_
  refine N_iald (pc := 5) dX10_lacksRow_5 (by first | rfl | assumption) rfl (by omega) ?_
  refine G_iload_n (pc := 6) dX10_lacksRow_6 rfl rfl ?_
  refine T_icmp_ne (pc := 7) (tgt := 14) dX10_lacksRow_7 (by decide) (fun c7 => ?_) (fun c7 => ?_)
  · skip
    refine G_aload_n (pc := 14) dX10_lacksRow_14 rfl rfl ?_
    refine S_getR (pc := 15) (b := 410) dX10_lacksRow_15 fX10_71 rfl rfl (by first | rfl | assumption) rfl rfl ?_
    refine G_iload_n (pc := 18) dX10_lacksRow_18 rfl rfl ?_
    refine N_iald (pc := 19) dX10_lacksRow_19 (by first | rfl | assumption) rfl (by omega) ?_
    refine T_if_ge (pc := 20) (tgt := 28) dX10_lacksRow_20 (by decide) (fun c20 => ?_) (fun c20 => ?_)
    · skip
      refine G_bipush (pc := 28) (v := (-12)) dX10_lacksRow_28 (by decide) ?_
      refine S_iret (pc := 30) dX10_lacksRow_30 rfl ?_
      exact q_i h (by unfold lackV; first | rw [if_pos (by omega)] | rw [if_neg (by omega), if_pos (by omega)] | rw [if_neg (by omega), if_neg (by omega)])
    · skip
      refine G_bipush (pc := 23) (v := (-11)) dX10_lacksRow_23 (by decide) ?_
      refine G_goto (pc := 25) (tgt := 30) dX10_lacksRow_25 (by decide) ?_
      refine S_iret (pc := 30) dX10_lacksRow_30 rfl ?_
      exact q_i h (by unfold lackV; first | rw [if_pos (by omega)] | rw [if_neg (by omega), if_pos (by omega)] | rw [if_neg (by omega), if_neg (by omega)])
  · skip
    refine G_iconst (pc := 10) (v := nI 0) dX10_lacksRow_10 (by decide) ?_
    refine G_goto (pc := 11) (tgt := 30) dX10_lacksRow_11 (by decide) ?_
    refine S_iret (pc := 30) dX10_lacksRow_30 rfl ?_
    exact q_i h (by unfold lackV; first | rw [if_pos (by omega)] | rw [if_neg (by omega), if_pos (by omega)] | rw [if_neg (by omega), if_neg (by omega)])
def shS (S : ST) (k : Nat) (l n : Int32) : ST := upR (upI (upI S 410 k l) 411 k n) 412 (20 * k) 20 (fun _ => nI 0)
set_option maxRecDepth 100000 in
set_option maxHeartbeats 4000000 in
theorem sheet_lp {k : Nat} {l n : Int32} (hk : k < 4) :
    ∀ (d j : Nat), j + d = 20 → Q (some (aI n)) (mk (upR S 412 (20 * k) 20 (fun _ => nI 0))) →
      G sc mX10_sheet 40 [some (aR 389), some (aI (nI k)), some (aI l), some (aI n), some (aI (nI j))] [] (mk (upR S 412 (20 * k) j (fun _ => nI 0))) Q := by
  intro d
  induction d with
  | zero =>
    intro j hj h
    have e : j = 20 := by omega
    subst e
    refine G_iload (pc := 40) dX10_sheet_40 rfl ?_
    refine G_bipush (pc := 42) (v := nI 20) dX10_sheet_42 (by decide) ?_
    refine N_icmp_ge (pc := 44) (tgt := 66) dX10_sheet_44 (by decide) (by omega) (fun c44 => ?_) (fun c44 => absurd c44 (by omega))
    refine G_iload_n (pc := 66) dX10_sheet_66 rfl rfl ?_
    refine S_iret (pc := 67) dX10_sheet_67 rfl ?_
    exact h
  | succ d ih =>
    intro j hj h
    refine G_iload (pc := 40) dX10_sheet_40 rfl ?_
    refine G_bipush (pc := 42) (v := nI 20) dX10_sheet_42 (by decide) ?_
    refine N_icmp_ge (pc := 44) (tgt := 66) dX10_sheet_44 (by decide) (by omega) (fun c44 => absurd c44 (by omega)) (fun c44 => ?_)
    refine G_aload_n (pc := 47) dX10_sheet_47 rfl rfl ?_
    refine S_getR (pc := 48) (b := 412) dX10_sheet_48 fX10_77 rfl rfl (by first | rfl | assumption) rfl rfl ?_
    refine G_bipush (pc := 51) (v := nI 20) dX10_sheet_51 (by decide) ?_
    refine G_iload_n (pc := 53) dX10_sheet_53 rfl rfl ?_
    refine N_imul (pc := 54) dX10_sheet_54 ?_
    refine G_iload (pc := 55) dX10_sheet_55 rfl ?_
    refine N_iadd (pc := 57) dX10_sheet_57 ?_
    refine G_iconst (pc := 58) (v := nI 0) dX10_sheet_58 (by decide) ?_
    refine N_iast (pc := 59) dX10_sheet_59 (by first | rfl | assumption) rfl (by omega) ?_
    rw [upR_s (f := fun _ => nI 0)]
    refine N_iinc (pc := 60) dX10_sheet_60 rfl (by decide) rfl ?_
    refine G_goto (pc := 63) (tgt := 40) dX10_sheet_63 (by decide) ?_
    exact ih (j + 1) (by omega) h
set_option maxRecDepth 100000 in
set_option maxHeartbeats 4000000 in
theorem sX10_sheet {s l n : Int32} (hbad : isShB s l = false ∨ 20 < n.toInt → Q (some (aI (-1))) (mk S)) (hsize : isShB s l = true → n.toInt < 0 → Q (some (aI (-14))) (mk S))
    (hok : isShB s l = true → 0 ≤ n.toInt → n.toInt ≤ 20 → Q (some (aI n)) (mk (shS S s.toNatClampNeg l n))) : CT sc mX10_sheet [aR 389, aI s, aI l, aI n] (mk S) Q := by
  refine S_of (by decide) rfl ?_
  show G sc mX10_sheet 0 [some (aR 389), some (aI s), some (aI l), some (aI n), none] [] (mk S) Q
  have z20 : (nI 20).toInt = 20 := rfl
  refine G_iload_n (pc := 0) dX10_sheet_0 rfl rfl ?_
  refine G_iload_n (pc := 1) dX10_sheet_1 rfl rfl ?_
  refine S_callS (av := [_, _]) (pc := 2) (z := mX10_isSheet) dX10_sheet_2 zX10_isSheet lX10_sheet_324 rfl (sX10_isSheet ⟨_, rfl, ?_⟩)
  refine B_if_eq (pc := 5) (tgt := 14) dX10_sheet_5 (by decide) (fun c5 => ?_) (fun c5 => ?_)
  · skip
    skip
    refine G_iconst (pc := 14) (v := (-1)) dX10_sheet_14 (by decide) ?_
    refine S_iret (pc := 15) dX10_sheet_15 rfl ?_
    first | exact hbad (Or.inl c5) | exact hbad (Or.inr (by omega))
  · skip
    obtain ⟨k, q, hk, hq, rfl, rfl⟩ := isShB_of c5
    rw [nI_clamp (by omega)] at hok
    refine G_iload_n (pc := 8) dX10_sheet_8 rfl rfl ?_
    refine G_bipush (pc := 9) (v := nI 20) dX10_sheet_9 (by decide) ?_
    refine T_icmp_le (pc := 11) (tgt := 16) dX10_sheet_11 (by decide) (fun c11 => ?_) (fun c11 => ?_)
    · skip
      rw [z20] at c11
      refine G_iload_n (pc := 16) dX10_sheet_16 rfl rfl ?_
      refine T_if_ge (pc := 17) (tgt := 23) dX10_sheet_17 (by decide) (fun c17 => ?_) (fun c17 => ?_)
      · skip
        refine G_aload_n (pc := 23) dX10_sheet_23 rfl rfl ?_
        refine S_getR (pc := 24) (b := 410) dX10_sheet_24 fX10_71 rfl rfl (by first | rfl | assumption) rfl rfl ?_
        refine G_iload_n (pc := 27) dX10_sheet_27 rfl rfl ?_
        refine G_iload_n (pc := 28) dX10_sheet_28 rfl rfl ?_
        refine N_iast (pc := 29) dX10_sheet_29 (by first | rfl | assumption) rfl (by omega) ?_
        refine G_aload_n (pc := 30) dX10_sheet_30 rfl rfl ?_
        refine S_getR (pc := 31) (b := 411) dX10_sheet_31 fX10_74 rfl rfl (by first | rfl | assumption) rfl rfl ?_
        refine G_iload_n (pc := 34) dX10_sheet_34 rfl rfl ?_
        refine G_iload_n (pc := 35) dX10_sheet_35 rfl rfl ?_
        refine N_iast (pc := 36) dX10_sheet_36 (by first | rfl | assumption) rfl (by omega) ?_
        refine G_iconst (pc := 37) (v := nI 0) dX10_sheet_37 (by decide) ?_
        refine G_istore (pc := 38) dX10_sheet_38 (by decide) rfl ?_
        have e0 : mk (upI (upI S 410 k (nI q)) 411 k n) = mk (upR (upI (upI S 410 k (nI q)) 411 k n) 412 (20 * k) 0 (fun _ => nI 0)) := by rw [upR_0]
        rw [e0]
        exact sheet_lp hk 20 0 (by omega) (hok c5 (by omega) (by omega))
      · skip
        refine G_bipush (pc := 20) (v := (-14)) dX10_sheet_20 (by decide) ?_
        refine S_iret (pc := 22) dX10_sheet_22 rfl ?_
        exact hsize c5 (by omega)
    · skip
      rw [z20] at c11
      refine G_iconst (pc := 14) (v := (-1)) dX10_sheet_14 (by decide) ?_
      refine S_iret (pc := 15) dX10_sheet_15 rfl ?_
      first | exact hbad (Or.inl c5) | exact hbad (Or.inr (by omega))
set_option maxRecDepth 100000 in
set_option maxHeartbeats 4000000 in
theorem sX10_drop {s : Int32} (hc : MIc S) (hbad : ¬ (0 ≤ s.toInt ∧ s.toInt ≤ 3) → Q (some (aI (-1))) (mk S)) (hnull : 0 ≤ s.toInt ∧ s.toInt ≤ 3 → (S.2.1 410 s.toNatClampNeg).toInt < 0 → Q (some (aI (-11))) (mk S))
    (hok : 0 ≤ s.toInt ∧ s.toInt ≤ 3 → 0 ≤ (S.2.1 410 s.toNatClampNeg).toInt → Q (some (aI (S.2.1 411 s.toNatClampNeg))) (mk (upI S 410 s.toNatClampNeg (-1)))) : CT sc mX10_drop [aR 389, aI s] (mk S) Q := by
  refine S_of (by decide) rfl ?_
  show G sc mX10_drop 0 [some (aR 389), some (aI s)] [] (mk S) Q
  have z0 : (0 : Int64).toInt = 0 := rfl
  have z3 : (3 : Int64).toInt = 3 := rfl
  refine G_iload_n (pc := 0) dX10_drop_0 rfl rfl ?_
  refine G_i2l (pc := 1) dX10_drop_1 ?_
  refine G_lconst (pc := 2) (v := 0) dX10_drop_2 (by decide) ?_
  refine G_ldc2 (pc := 3) dX10_drop_3 kX10_201 ?_
  refine S_callS (av := [_, _, _]) (pc := 6) (z := mX10_in) dX10_drop_6 zX10_in lX10_drop_84 rfl (sX10_in ⟨_, rfl, ?_⟩)
  refine B_if_ne (pc := 9) (tgt := 14) dX10_drop_9 (by decide) (fun c9 => ?_) (fun c9 => ?_)
  · skip
    rw [decide_eq_true_iff, Int32.toInt_toInt64, z0, z3] at c9
    have hnull := hnull c9
    have hok := hok c9
    obtain ⟨k, hk, rfl⟩ := nI_ex (x := s) (n := 4) (by omega) (by omega)
    rw [nI_clamp (by omega)] at hok hnull
    refine G_aload_n (pc := 14) dX10_drop_14 rfl rfl ?_
    refine S_getR (pc := 15) (b := 410) dX10_drop_15 fX10_71 rfl rfl (by first | rfl | assumption) rfl rfl ?_
    refine G_iload_n (pc := 18) dX10_drop_18 rfl rfl ?_
    refine N_iald (pc := 19) dX10_drop_19 (by first | rfl | assumption) rfl (by omega) ?_
    refine T_if_ge (pc := 20) (tgt := 26) dX10_drop_20 (by decide) (fun c20 => ?_) (fun c20 => ?_)
    · skip
      refine G_aload_n (pc := 26) dX10_drop_26 rfl rfl ?_
      refine S_getR (pc := 27) (b := 410) dX10_drop_27 fX10_71 rfl rfl (by first | rfl | assumption) rfl rfl ?_
      refine G_iload_n (pc := 30) dX10_drop_30 rfl rfl ?_
      refine G_iconst (pc := 31) (v := (-1)) dX10_drop_31 (by decide) ?_
      refine N_iast (pc := 32) dX10_drop_32 (by first | rfl | assumption) rfl (by omega) ?_
      refine G_aload_n (pc := 33) dX10_drop_33 rfl rfl ?_
      refine S_getR (pc := 34) (b := 411) dX10_drop_34 fX10_74 rfl rfl (by first | rfl | assumption) rfl rfl ?_
      refine G_iload_n (pc := 37) dX10_drop_37 rfl rfl ?_
      refine N_iald (pc := 38) dX10_drop_38 (by first | rfl | assumption) rfl (by omega) ?_
      rw [show (upI S 410 k (-1)).2.1 411 k = S.2.1 411 k from upI_n (by omega)]
      refine S_iret (pc := 39) dX10_drop_39 rfl ?_
      exact hok (by omega)
    · skip
      refine G_bipush (pc := 23) (v := (-11)) dX10_drop_23 (by decide) ?_
      refine S_iret (pc := 25) dX10_drop_25 rfl ?_
      exact hnull (by omega)
  · skip
    rw [decide_eq_false_iff_not, Int32.toInt_toInt64, z0, z3] at c9
    refine G_iconst (pc := 12) (v := (-1)) dX10_drop_12 (by decide) ?_
    refine S_iret (pc := 13) dX10_drop_13 rfl ?_
    exact hbad c9
set_option maxRecDepth 100000 in
set_option maxHeartbeats 4000000 in
theorem sX10_item {s l i v : Int32} (hc : MIc S) (hbad : isShB s l = false → Q (some (aI (-1))) (mk S)) (hno : isShB s l = true → ¬ (S.2.1 410 s.toNatClampNeg).toInt = l.toInt → Q (some (aI (lackV (S.2.1 410 s.toNatClampNeg) l))) (mk S))
    (hidx : isShB s l = true → (S.2.1 410 s.toNatClampNeg).toInt = l.toInt → ¬ (0 ≤ i.toInt ∧ i.toInt < rsN S s.toNatClampNeg) → Q (some (aI (-13))) (mk S))
    (hok : isShB s l = true → (S.2.1 410 s.toNatClampNeg).toInt = l.toInt → 0 ≤ i.toInt ∧ i.toInt < rsN S s.toNatClampNeg → Q (some (aI (nI 1))) (mk (upI S 412 (20 * s.toNatClampNeg + i.toNatClampNeg) (laneV l.toNatClampNeg v)))) : CT sc mX10_item [aR 389, aI s, aI l, aI i, aI v] (mk S) Q := by
  refine S_of (by decide) rfl ?_
  show G sc mX10_item 0 [some (aR 389), some (aI s), some (aI l), some (aI i), some (aI v), none] [] (mk S) Q
  have z0 : (0 : Int64).toInt = 0 := rfl
  refine G_iload_n (pc := 0) dX10_item_0 rfl rfl ?_
  refine G_iload_n (pc := 1) dX10_item_1 rfl rfl ?_
  refine S_callS (av := [_, _]) (pc := 2) (z := mX10_isSheet) dX10_item_2 zX10_isSheet lX10_item_324 rfl (sX10_isSheet ⟨_, rfl, ?_⟩)
  refine B_if_ne (pc := 5) (tgt := 10) dX10_item_5 (by decide) (fun c5 => ?_) (fun c5 => ?_)
  · skip
    obtain ⟨k, q, hk, hq, rfl, rfl⟩ := isShB_of c5
    rw [nI_clamp (by omega)] at hok hno hidx
    have hs := hc k hk
    refine G_aload_n (pc := 10) dX10_item_10 rfl rfl ?_
    refine G_iload_n (pc := 11) dX10_item_11 rfl rfl ?_
    refine G_iload_n (pc := 12) dX10_item_12 rfl rfl ?_
    refine S_callV (av := [_, _]) (pc := 13) (z := mX10_lacksRow) (ci := 9) dX10_item_13 zX10_lacksRow lX10_item_327 rfl (by first | rfl | assumption) rfl rfl (sX10_lacksRow hk ⟨_, rfl, ?_⟩)
    refine G_istore (pc := 16) dX10_item_16 (by decide) rfl ?_
    refine G_iload (pc := 18) dX10_item_18 rfl ?_
    refine T_if_ge (pc := 20) (tgt := 26) dX10_item_20 (by decide) (fun c20 => ?_) (fun c20 => ?_)
    · skip
      have e : (S.2.1 410 k).toInt = (nI q).toInt := by
        by_cases z : (S.2.1 410 k).toInt = (nI q).toInt
        · exact z
        · exfalso
          unfold lackV at c20
          rw [if_neg z] at c20
          split at c20 <;> exact absurd c20 (by decide)
      refine G_iload_n (pc := 26) dX10_item_26 rfl rfl ?_
      refine G_i2l (pc := 27) dX10_item_27 ?_
      refine G_lconst (pc := 28) (v := 0) dX10_item_28 (by decide) ?_
      refine G_aload_n (pc := 29) dX10_item_29 rfl rfl ?_
      refine S_getR (pc := 30) (b := 411) dX10_item_30 fX10_74 rfl rfl (by first | rfl | assumption) rfl rfl ?_
      refine G_iload_n (pc := 33) dX10_item_33 rfl rfl ?_
      refine N_iald (pc := 34) dX10_item_34 (by first | rfl | assumption) rfl (by omega) ?_
      rw [hs.1.1]
      refine G_iconst (pc := 35) (v := nI 1) dX10_item_35 (by decide) ?_
      refine G_isub (pc := 36) dX10_item_36 ?_
      refine G_i2l (pc := 37) dX10_item_37 ?_
      refine S_callS (av := [_, _, _]) (pc := 38) (z := mX10_in) dX10_item_38 zX10_in lX10_item_84 rfl (sX10_in ⟨_, rfl, ?_⟩)
      refine B_if_ne (pc := 41) (tgt := 47) dX10_item_41 (by decide) (fun c41 => ?_) (fun c41 => ?_)
      · skip
        rw [decide_eq_true_iff, Int32.toInt_toInt64, Int32.toInt_toInt64, z0, nI_m1 (by omega)] at c41
        have hok := hok c5 e (by omega)
        obtain ⟨j, hj, rfl⟩ := nI_ex (x := i) (n := rsN S k) (by omega) (by omega)
        rw [nI_clamp (by omega), nI_clamp (by omega)] at hok
        refine G_aload_n (pc := 47) dX10_item_47 rfl rfl ?_
        refine S_getR (pc := 48) (b := 412) dX10_item_48 fX10_77 rfl rfl (by first | rfl | assumption) rfl rfl ?_
        refine G_bipush (pc := 51) (v := nI 20) dX10_item_51 (by decide) ?_
        refine G_iload_n (pc := 53) dX10_item_53 rfl rfl ?_
        refine N_imul (pc := 54) dX10_item_54 ?_
        refine G_iload_n (pc := 55) dX10_item_55 rfl rfl ?_
        refine N_iadd (pc := 56) dX10_item_56 ?_
        refine G_iload_n (pc := 57) dX10_item_57 rfl rfl ?_
        refine N_if_ne (pc := 58) (tgt := 72) dX10_item_58 (by decide) (by omega) (fun c58 => ?_) (fun c58 => ?_)
        · skip
          refine G_iload_n (pc := 72) dX10_item_72 rfl rfl ?_
          refine G_iconst (pc := 73) (v := nI 1) dX10_item_73 (by decide) ?_
          refine N_icmp_ne (pc := 74) (tgt := 88) dX10_item_74 (by decide) (by omega) (fun c74 => ?_) (fun c74 => ?_)
          · skip
            refine G_iload (pc := 88) dX10_item_88 rfl ?_
            refine N_iast (pc := 90) dX10_item_90 (by first | rfl | assumption) rfl (by omega) ?_
            refine G_iconst (pc := 91) (v := nI 1) dX10_item_91 (by decide) ?_
            refine S_iret (pc := 92) dX10_item_92 rfl ?_
            exact (by simpa [laneV, *] using hok)
          · skip
            refine G_iload (pc := 77) dX10_item_77 rfl ?_
            refine G_bipush (pc := 79) (v := nI 16) dX10_item_79 (by decide) ?_
            refine G_ishl (pc := 81) dX10_item_81 ?_
            refine G_bipush (pc := 82) (v := nI 16) dX10_item_82 (by decide) ?_
            refine G_ishr (pc := 84) dX10_item_84 ?_
            refine G_goto (pc := 85) (tgt := 90) dX10_item_85 (by decide) ?_
            refine N_iast (pc := 90) dX10_item_90 (by first | rfl | assumption) rfl (by omega) ?_
            refine G_iconst (pc := 91) (v := nI 1) dX10_item_91 (by decide) ?_
            refine S_iret (pc := 92) dX10_item_92 rfl ?_
            exact (by simpa [laneV, *] using hok)
        · skip
          refine G_iload (pc := 61) dX10_item_61 rfl ?_
          refine G_bipush (pc := 63) (v := nI 24) dX10_item_63 (by decide) ?_
          refine G_ishl (pc := 65) dX10_item_65 ?_
          refine G_bipush (pc := 66) (v := nI 24) dX10_item_66 (by decide) ?_
          refine G_ishr (pc := 68) dX10_item_68 ?_
          refine G_goto (pc := 69) (tgt := 90) dX10_item_69 (by decide) ?_
          refine N_iast (pc := 90) dX10_item_90 (by first | rfl | assumption) rfl (by omega) ?_
          refine G_iconst (pc := 91) (v := nI 1) dX10_item_91 (by decide) ?_
          refine S_iret (pc := 92) dX10_item_92 rfl ?_
          exact (by simpa [laneV, *] using hok)
      · skip
        rw [decide_eq_false_iff_not, Int32.toInt_toInt64, Int32.toInt_toInt64, z0, nI_m1 (by omega)] at c41
        refine G_bipush (pc := 44) (v := (-13)) dX10_item_44 (by decide) ?_
        refine S_iret (pc := 46) dX10_item_46 rfl ?_
        exact hidx c5 e (by omega)
    · skip
      have e : ¬ (S.2.1 410 k).toInt = (nI q).toInt := fun z => c20 (by unfold lackV; rw [if_pos z]; decide)
      refine G_iload (pc := 23) dX10_item_23 rfl ?_
      refine S_iret (pc := 25) dX10_item_25 rfl ?_
      exact hno c5 e
  · skip
    refine G_iconst (pc := 8) (v := (-1)) dX10_item_8 (by decide) ?_
    refine S_iret (pc := 9) dX10_item_9 rfl ?_
    exact hbad c5
end M10
