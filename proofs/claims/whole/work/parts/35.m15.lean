/-! the model: kept, run, show, count -/
def prL (S : ST) (a b : Nat) : List Nat := if (S.2.1 a b).toInt < 0 then [] else if (S.2.1 a (b + 1)).toInt < 0 then [(S.2.1 a b).toNatClampNeg] else if (S.2.1 a (b + 2)).toInt < 0 then [(S.2.1 a b).toNatClampNeg, (S.2.1 a (b + 1)).toNatClampNeg] else [(S.2.1 a b).toNatClampNeg, (S.2.1 a (b + 1)).toNatClampNeg, (S.2.1 a (b + 2)).toNatClampNeg]
/-- kept programs -/
def MId (S : ST) : Prop := (S.1 389 28 = nI (kpN S) ∧ kpN S ≤ 4) ∧ ∀ p, p < kpN S → PrIs S 408 (3 * p) (prL S 408 (3 * p)) ∧ okL 0 (prL S 408 (3 * p)) ∧ (∀ x ∈ prL S 408 (3 * p), isPc x)
def sp_kept (S : ST) (p w : Int32) : Int32 := if isTh (kpN S) p = true ∧ 0 ≤ w.toInt ∧ w.toInt ≤ 4 then tolP (prL S 408 (3 * p.toNatClampNeg)) w.toNatClampNeg else -1
def sp_run (S : ST) (p t i : Int32) : Int32 := if isTh (kpN S) p = true ∧ isTh (thN S) t = true ∧ -1 ≤ i.toInt then (match runP (lnB S t.toNatClampNeg) (szN S t.toNatClampNeg) (prL S 408 (3 * p.toNatClampNeg)) with
  | some l => told l i
  | none => -4) else -1
def sp_count (S : ST) (w : Int32) : Int32 := if 0 ≤ w.toInt ∧ w.toInt ≤ 4 then (if w.toInt = 0 then nI (thN S) else if w.toInt = 4 then nI (kpN S) else nI (cntS S w (thN S))) else -1
theorem runP_len {b : Nat → Int32} {n : Nat} (hn : n ≤ 16) : ∀ (ps : List Nat) (m : Nat) (q : List Int32), okL m ps → runP b n ps = some q → m ≤ 20 ∨ ps = [] → m + q.length ≤ 36 ∨ ps = []
  | [], _, _, _, _, h => Or.inr rfl
  | p :: r, m, q, hok, hq, _ => by
    obtain ⟨h1, h2, h3⟩ := hok
    unfold runP at hq
    rcases hp : pcL b n p with _ | l
    · rw [hp] at hq; cases hq
    · rw [hp] at hq
      have hl := pc_len h2 hn hp
      rcases hr : runP b n r with _ | q2
      · simp only [hr] at hq; cases hq
      · simp only [hr] at hq
        cases hq
        refine Or.inl ?_
        cases r with
        | nil =>
          cases hr
          simp only [List.append_nil]
          split at hl <;> omega
        | cons p2 r2 =>
          have := runP_len hn (p2 :: r2) _ q2 h3 hr (Or.inl h3.1)
          simp only [List.length_append]
          rcases this with h | h
          · split at h <;> split at hl <;> omega
          · cases h
section M15
variable {sc : SC} {S : ST} {Q : Option AV → HM → Prop}
set_option maxRecDepth 100000 in
set_option maxHeartbeats 4000000 in
theorem sX10_kept {p w : Int32} (hd : MId S) (h : Q (some (aI (sp_kept S p w))) (mk S)) : CT sc mX10_kept [aR 389, aI p, aI w] (mk S) Q := by
  refine S_of (by decide) rfl ?_
  show G sc mX10_kept 0 [some (aR 389), some (aI p), some (aI w)] [] (mk S) Q
  have hn := hd.1
  have z0 : (0 : Int64).toInt = 0 := rfl
  have z4 : (4 : Int64).toInt = 4 := rfl
  refine G_aload_n (pc := 0) dX10_kept_0 rfl rfl ?_
  refine G_iload_n (pc := 1) dX10_kept_1 rfl rfl ?_
  refine S_callV (av := [_]) (pc := 2) (z := mX10_isKept) (ci := 9) dX10_kept_2 zX10_isKept lX10_kept_319 rfl (by first | rfl | assumption) rfl rfl (sX10_isKept hn.1 (by omega) ⟨_, rfl, ?_⟩)
  refine B_if_eq (pc := 5) (tgt := 34) dX10_kept_5 (by decide) (fun c5 => ?_) (fun c5 => ?_)
  · skip
    refine G_iconst (pc := 34) (v := (-1)) dX10_kept_34 (by decide) ?_
    refine S_iret (pc := 35) dX10_kept_35 rfl ?_
    first
      | exact q_i h (by unfold sp_kept; rw [if_neg (by first | omega | (intro q; rw [c5] at q; exact absurd q.1 (by decide)))])
      | exact q_i h (by unfold sp_kept; rw [if_pos ⟨c5, by omega⟩, nI_clamp (by omega), nI_clamp (by omega)])
  · skip
    refine G_iload_n (pc := 8) dX10_kept_8 rfl rfl ?_
    refine G_i2l (pc := 9) dX10_kept_9 ?_
    refine G_lconst (pc := 10) (v := 0) dX10_kept_10 (by decide) ?_
    refine G_ldc2 (pc := 11) dX10_kept_11 kX10_233 ?_
    refine S_callS (av := [_, _, _]) (pc := 14) (z := mX10_in) dX10_kept_14 zX10_in lX10_kept_84 rfl (sX10_in ⟨_, rfl, ?_⟩)
    refine B_if_eq (pc := 17) (tgt := 34) dX10_kept_17 (by decide) (fun c17 => ?_) (fun c17 => ?_)
    · skip
      rw [decide_eq_false_iff_not, Int32.toInt_toInt64, z0, z4] at c17
      refine G_iconst (pc := 34) (v := (-1)) dX10_kept_34 (by decide) ?_
      refine S_iret (pc := 35) dX10_kept_35 rfl ?_
      first
        | exact q_i h (by unfold sp_kept; rw [if_neg (by first | omega | (intro q; rw [c5] at q; exact absurd q.1 (by decide)))])
        | exact q_i h (by unfold sp_kept; rw [if_pos ⟨c5, by omega⟩, nI_clamp (by omega), nI_clamp (by omega)])
    · skip
      rw [decide_eq_true_iff, Int32.toInt_toInt64, z0, z4] at c17
      obtain ⟨k, hk, rfl⟩ := isTh_of c5
      obtain ⟨v, hv, rfl⟩ := nI_ex (x := w) (n := 5) (by omega) (by omega)
      have hp := hd.2 k hk
      refine G_aload_n (pc := 20) dX10_kept_20 rfl rfl ?_
      refine S_getR (pc := 21) (b := 408) dX10_kept_21 fX10_65 rfl rfl (by first | rfl | assumption) rfl rfl ?_
      refine G_iconst (pc := 24) (v := nI 3) dX10_kept_24 (by decide) ?_
      refine G_iload_n (pc := 25) dX10_kept_25 rfl rfl ?_
      refine N_imul (pc := 26) dX10_kept_26 ?_
      refine G_iload_n (pc := 27) dX10_kept_27 rfl rfl ?_
      refine S_callS (av := [_, _, _]) (pc := 28) (z := mX10_toldOf) dX10_kept_28 zX10_toldOf lX10_kept_239 rfl (sX10_toldOf (z := 12) rfl rfl (by omega) (by omega) hp.1 hp.2.2 ⟨_, rfl, ?_⟩)
      refine G_goto (pc := 31) (tgt := 35) dX10_kept_31 (by decide) ?_
      refine S_iret (pc := 35) dX10_kept_35 rfl ?_
      first
        | exact q_i h (by unfold sp_kept; rw [if_neg (by first | omega | (intro q; rw [c5] at q; exact absurd q.1 (by decide)))])
        | exact q_i h (by unfold sp_kept; rw [if_pos ⟨c5, by omega⟩, nI_clamp (by omega), nI_clamp (by omega)])
set_option maxRecDepth 100000 in
set_option maxHeartbeats 4000000 in
theorem sX10_run {p t i : Int32} (ha : MIa S) (hd : MId S) (h : ∀ S', Fr oX oA S S' → Q (some (aI (sp_run S p t i))) (mk S')) : CT sc mX10_run [aR 389, aI p, aI t, aI i] (mk S) Q := by
  refine S_of (by decide) rfl ?_
  show G sc mX10_run 0 [some (aR 389), some (aI p), some (aI t), some (aI i)] [] (mk S) Q
  have hn := hd.1
  have z1 : (-1 : Int32).toInt = -1 := rfl
  refine G_aload_n (pc := 0) dX10_run_0 rfl rfl ?_
  refine G_iload_n (pc := 1) dX10_run_1 rfl rfl ?_
  refine S_callV (av := [_]) (pc := 2) (z := mX10_isKept) (ci := 9) dX10_run_2 zX10_isKept lX10_run_319 rfl (by first | rfl | assumption) rfl rfl (sX10_isKept hn.1 (by omega) ⟨_, rfl, ?_⟩)
  refine B_if_eq (pc := 5) (tgt := 21) dX10_run_5 (by decide) (fun c5 => ?_) (fun c5 => ?_)
  · skip
    refine G_iconst (pc := 21) (v := (-1)) dX10_run_21 (by decide) ?_
    refine S_iret (pc := 22) dX10_run_22 rfl ?_
    exact q_i (h S Fr.rf) (by unfold sp_run; rw [if_neg (by first | omega | (intro q; rw [c5] at q; exact absurd q.1 (by decide)) | (intro q; rw [c13] at q; exact absurd q.2.1 (by decide)))])
  · skip
    refine G_aload_n (pc := 8) dX10_run_8 rfl rfl ?_
    refine G_iload_n (pc := 9) dX10_run_9 rfl rfl ?_
    refine S_callV (av := [_]) (pc := 10) (z := mX10_isThing) (ci := 9) dX10_run_10 zX10_isThing lX10_run_105 rfl (by first | rfl | assumption) rfl rfl (sX10_isThing ha.1.1 (by have := ha.1.2; omega) ⟨_, rfl, ?_⟩)
    refine B_if_eq (pc := 13) (tgt := 21) dX10_run_13 (by decide) (fun c13 => ?_) (fun c13 => ?_)
    · skip
      refine G_iconst (pc := 21) (v := (-1)) dX10_run_21 (by decide) ?_
      refine S_iret (pc := 22) dX10_run_22 rfl ?_
      exact q_i (h S Fr.rf) (by unfold sp_run; rw [if_neg (by first | omega | (intro q; rw [c5] at q; exact absurd q.1 (by decide)) | (intro q; rw [c13] at q; exact absurd q.2.1 (by decide)))])
    · skip
      refine G_iload_n (pc := 16) dX10_run_16 rfl rfl ?_
      refine G_iconst (pc := 17) (v := (-1)) dX10_run_17 (by decide) ?_
      refine T_icmp_ge (pc := 18) (tgt := 23) dX10_run_18 (by decide) (fun c18 => ?_) (fun c18 => ?_)
      · skip
        rw [z1] at c18
        obtain ⟨k, hk, rfl⟩ := isTh_of c5
        obtain ⟨u, hu, rfl⟩ := isTh_of c13
        have hp := hd.2 k hk
        have hs := ha.2 u hu
        have h12 := ha.1.2
        have e : sp_run S (nI k) (nI u) i = match runP (lnB S u) (szN S u) (prL S 408 (3 * k)) with
          | some l => told l i
          | none => -4 := by
          unfold sp_run
          rw [if_pos ⟨c5, c13, by omega⟩, nI_clamp (by omega), nI_clamp (by have := ha.1.2; omega)]
        rw [e] at h
        refine G_aload_n (pc := 23) dX10_run_23 rfl rfl ?_
        refine G_aload_n (pc := 24) dX10_run_24 rfl rfl ?_
        refine S_getR (pc := 25) (b := 408) dX10_run_25 fX10_65 rfl rfl (by first | rfl | assumption) rfl rfl ?_
        refine G_iconst (pc := 28) (v := nI 3) dX10_run_28 (by decide) ?_
        refine G_iload_n (pc := 29) dX10_run_29 rfl rfl ?_
        refine N_imul (pc := 30) dX10_run_30 ?_
        refine G_iload_n (pc := 31) dX10_run_31 rfl rfl ?_
        refine S_callV (av := [_, _, _]) (pc := 32) (z := mX10_runRow) (ci := 9) dX10_run_32 zX10_runRow lX10_run_243 rfl (by first | rfl | assumption) rfl rfl (sX10_runRow (n := szN S u) (z := 12) (by have := ha.1.2; omega) hs.1 hs.2.2.1 rfl rfl (by omega) (by decide) hp.1 hp.2.1 (fun S' q g1 g2 g3 => ⟨_, rfl, ?_⟩) (fun g1 S' g2 g3 => ⟨_, rfl, ?_⟩))
        · have g1 : runP (lnB S u) (szN S u) (prL S 408 (3 * k)) = some q := g1
          rw [g1] at h
          have gl : q.length ≤ 36 := by
            rcases runP_len hs.2.2.1 _ 0 q hp.2.1 g1 (Or.inl (by omega)) with z | z
            · omega
            · rw [z] at g1; cases g1; simp
          refine B_if_eq (pc := 35) (tgt := 46) dX10_run_35 (by decide) (fun c35 => absurd c35 (by decide)) (fun c35 => ?_)
          refine G_aload_n (pc := 38) dX10_run_38 rfl rfl ?_
          refine G_iload_n (pc := 39) dX10_run_39 rfl rfl ?_
          refine S_callV (av := [_]) (pc := 40) (z := mX10_byteOf) (ci := 9) dX10_run_40 zX10_byteOf lX10_run_161 rfl (by first | rfl | assumption) rfl rfl (sX10_byteOf g3 gl ⟨_, rfl, ?_⟩)
          refine G_goto (pc := 43) (tgt := 48) dX10_run_43 (by decide) ?_
          refine S_iret (pc := 48) dX10_run_48 rfl ?_
          exact h S' g2
        have g1 : runP (lnB S u) (szN S u) (prL S 408 (3 * k)) = none := g1
        rw [g1] at h
        skip
        refine B_if_eq (pc := 35) (tgt := 46) dX10_run_35 (by decide) (fun c35 => ?_) (fun c35 => absurd c35 (by decide))
        refine G_bipush (pc := 46) (v := (-4)) dX10_run_46 (by decide) ?_
        refine S_iret (pc := 48) dX10_run_48 rfl ?_
        exact h S' g2
      · skip
        rw [z1] at c18
        refine G_iconst (pc := 21) (v := (-1)) dX10_run_21 (by decide) ?_
        refine S_iret (pc := 22) dX10_run_22 rfl ?_
        exact q_i (h S Fr.rf) (by unfold sp_run; rw [if_neg (by first | omega | (intro q; rw [c5] at q; exact absurd q.1 (by decide)) | (intro q; rw [c13] at q; exact absurd q.2.1 (by decide)))])
set_option maxRecDepth 100000 in
set_option maxHeartbeats 4000000 in
theorem sX10_count {w : Int32} (ha : MIa S) (hd : MId S) (h : Q (some (aI (sp_count S w))) (mk S)) : CT sc mX10_count [aR 389, aI w] (mk S) Q := by
  refine S_of (by decide) rfl ?_
  show G sc mX10_count 0 [some (aR 389), some (aI w)] [] (mk S) Q
  have z0 : (0 : Int64).toInt = 0 := rfl
  have z4 : (4 : Int64).toInt = 4 := rfl
  have y4 : (nI 4).toInt = 4 := rfl
  refine G_iload_n (pc := 0) dX10_count_0 rfl rfl ?_
  refine G_i2l (pc := 1) dX10_count_1 ?_
  refine G_lconst (pc := 2) (v := 0) dX10_count_2 (by decide) ?_
  refine G_ldc2 (pc := 3) dX10_count_3 kX10_233 ?_
  refine S_callS (av := [_, _, _]) (pc := 6) (z := mX10_in) dX10_count_6 zX10_in lX10_count_84 rfl (sX10_in ⟨_, rfl, ?_⟩)
  refine B_if_ne (pc := 9) (tgt := 14) dX10_count_9 (by decide) (fun c9 => ?_) (fun c9 => ?_)
  · skip
    rw [decide_eq_true_iff, Int32.toInt_toInt64, z0, z4] at c9
    refine G_iload_n (pc := 14) dX10_count_14 rfl rfl ?_
    refine T_if_ne (pc := 15) (tgt := 25) dX10_count_15 (by decide) (fun c15 => ?_) (fun c15 => ?_)
    · skip
      refine G_iload_n (pc := 25) dX10_count_25 rfl rfl ?_
      refine G_iconst (pc := 26) (v := nI 4) dX10_count_26 (by decide) ?_
      refine T_icmp_ne (pc := 27) (tgt := 37) dX10_count_27 (by decide) (fun c27 => ?_) (fun c27 => ?_)
      · skip
        rw [y4] at c27
        refine G_aload_n (pc := 37) dX10_count_37 rfl rfl ?_
        refine G_iload_n (pc := 38) dX10_count_38 rfl rfl ?_
        refine S_callV (av := [_]) (pc := 39) (z := mX10_countOf) (ci := 9) dX10_count_39 zX10_countOf lX10_count_169 rfl (by first | rfl | assumption) rfl rfl (sX10_countOf ha ⟨_, rfl, ?_⟩)
        refine S_iret (pc := 42) dX10_count_42 rfl ?_
        exact q_i h (by unfold sp_count; first | rw [if_neg (by omega)] | rw [if_pos (by omega), if_pos (by omega)] | rw [if_pos (by omega), if_neg (by omega), if_pos (by omega)] | rw [if_pos (by omega), if_neg (by omega), if_neg (by omega)])
      · skip
        rw [y4] at c27
        refine G_aload_n (pc := 30) dX10_count_30 rfl rfl ?_
        refine S_getI (pc := 31) dX10_count_31 fX10_281 rfl (by first | rfl | assumption) rfl ?_
        rw [hd.1.1]
        refine G_goto (pc := 34) (tgt := 42) dX10_count_34 (by decide) ?_
        refine S_iret (pc := 42) dX10_count_42 rfl ?_
        exact q_i h (by unfold sp_count; first | rw [if_neg (by omega)] | rw [if_pos (by omega), if_pos (by omega)] | rw [if_pos (by omega), if_neg (by omega), if_pos (by omega)] | rw [if_pos (by omega), if_neg (by omega), if_neg (by omega)])
    · skip
      refine G_aload_n (pc := 18) dX10_count_18 rfl rfl ?_
      refine S_getI (pc := 19) dX10_count_19 fX10_80 rfl (by first | rfl | assumption) rfl ?_
      rw [ha.1.1]
      refine G_goto (pc := 22) (tgt := 42) dX10_count_22 (by decide) ?_
      refine S_iret (pc := 42) dX10_count_42 rfl ?_
      exact q_i h (by unfold sp_count; first | rw [if_neg (by omega)] | rw [if_pos (by omega), if_pos (by omega)] | rw [if_pos (by omega), if_neg (by omega), if_pos (by omega)] | rw [if_pos (by omega), if_neg (by omega), if_neg (by omega)])
  · skip
    rw [decide_eq_false_iff_not, Int32.toInt_toInt64, z0, z4] at c9
    refine G_iconst (pc := 12) (v := (-1)) dX10_count_12 (by decide) ?_
    refine S_iret (pc := 13) dX10_count_13 rfl ?_
    exact q_i h (by unfold sp_count; first | rw [if_neg (by omega)] | rw [if_pos (by omega), if_pos (by omega)] | rw [if_pos (by omega), if_neg (by omega), if_pos (by omega)] | rw [if_pos (by omega), if_neg (by omega), if_neg (by omega)])
/-- a thing is shown: its end is the tape -/
def shwS (S : ST) (t n : Nat) : ST := upI (upI (upI (upR S 393 (36 * t) n (S.2.1 396)) 394 t (nI n)) 392 t (nI 1)) 395 t (nI 0)
set_option maxRecDepth 100000 in
set_option maxHeartbeats 4000000 in
theorem show_lp {t n : Nat} (ht : t < 12) (hn : n ≤ 12) :
    ∀ (d j : Nat), j + d = n → G sc mX10_show 93 [some (aR 389), some (aI (nI t)), some (aI (nI n)), some (aI (nI n))] [] (mk (upR S 393 (36 * t) n (S.2.1 396))) Q →
      G sc mX10_show 65 [some (aR 389), some (aI (nI t)), some (aI (nI n)), some (aI (nI j))] [] (mk (upR S 393 (36 * t) j (S.2.1 396))) Q := by
  intro d
  induction d with
  | zero =>
    intro j hj h
    have e : j = n := by omega
    subst e
    refine G_iload_n (pc := 65) dX10_show_65 rfl rfl ?_
    refine G_iload_n (pc := 66) dX10_show_66 rfl rfl ?_
    refine N_icmp_ge (pc := 67) (tgt := 93) dX10_show_67 (by decide) (by omega) (fun c67 => ?_) (fun c67 => absurd c67 (by omega))
    exact h
  | succ d ih =>
    intro j hj h
    refine G_iload_n (pc := 65) dX10_show_65 rfl rfl ?_
    refine G_iload_n (pc := 66) dX10_show_66 rfl rfl ?_
    refine N_icmp_ge (pc := 67) (tgt := 93) dX10_show_67 (by decide) (by omega) (fun c67 => absurd c67 (by omega)) (fun c67 => ?_)
    refine G_aload_n (pc := 70) dX10_show_70 rfl rfl ?_
    refine S_getR (pc := 71) (b := 393) dX10_show_71 fX10_19 rfl rfl (by first | rfl | assumption) rfl rfl ?_
    refine G_bipush (pc := 74) (v := nI 36) dX10_show_74 (by decide) ?_
    refine G_iload_n (pc := 76) dX10_show_76 rfl rfl ?_
    refine N_imul (pc := 77) dX10_show_77 ?_
    refine G_iload_n (pc := 78) dX10_show_78 rfl rfl ?_
    refine N_iadd (pc := 79) dX10_show_79 ?_
    refine G_aload_n (pc := 80) dX10_show_80 rfl rfl ?_
    refine S_getR (pc := 81) (b := 396) dX10_show_81 fX10_28 rfl rfl (by first | rfl | assumption) rfl rfl ?_
    refine G_iload_n (pc := 84) dX10_show_84 rfl rfl ?_
    refine N_iald (pc := 85) dX10_show_85 (by first | rfl | assumption) (by first | rfl | assumption) (by omega) ?_
    rw [show (upR S 393 (36 * t) j (S.2.1 396)).2.1 396 j = S.2.1 396 j from upR_n (by omega)]
    refine N_iast (pc := 86) dX10_show_86 (by first | rfl | assumption) (by first | rfl | assumption) (by omega) ?_
    rw [upR_s]
    refine N_iinc (pc := 87) dX10_show_87 rfl (by decide) rfl ?_
    refine G_goto (pc := 90) (tgt := 65) dX10_show_90 (by decide) ?_
    exact ih (j + 1) (by omega) h
theorem MIa_of {S S' : ST} (ha : MIa S) (h0 : S'.1 389 0 = S.1 389 0) (h1 : ∀ i, S'.2.1 391 i = S.2.1 391 i) (h2 : ∀ i, S'.2.1 390 i = S.2.1 390 i) : MIa S' := by
  unfold MIa thN szN lnB at ha ⊢
  simp only [h0, h1, h2]
  exact ha
set_option maxRecDepth 100000 in
set_option maxHeartbeats 4000000 in
theorem sX10_show {t : Int32} {l : List Int32} (ha : MIa S) (hb : MIb S) (hl : TapIs S l) (hlen : l.length ≤ 60) (hbad : isTh (thN S) t = false → Q (some (aI (-1))) (mk S))
    (hnot : ∀ k, t = nI k → k < thN S → isTh (thN S) t = true → ¬ (1 ≤ l.length ∧ l.length ≤ 12) → Q (some (aI (-2))) (mk (upX S 389 9 (nI 0))))
    (hfull : ∀ k, t = nI k → k < thN S → isTh (thN S) t = true → 1 ≤ l.length ∧ l.length ≤ 12 → cntS S (nI 1) (thN S) = 4 + (if stN S k = 1 then 1 else 0) → Q (some (aI (-3))) (mk (upX S 389 9 (nI 0))))
    (hok : ∀ k, t = nI k → k < thN S → isTh (thN S) t = true → 1 ≤ l.length ∧ l.length ≤ 12 → ¬ cntS S (nI 1) (thN S) = 4 + (if stN S k = 1 then 1 else 0) → Q (some (aI (nI (cntS (shwS (upX S 389 9 (nI 0)) k l.length) (nI 1) (thN S))))) (mk (shwS (upX S 389 9 (nI 0)) k l.length))) : CT sc mX10_show [aR 389, aI t] (mk S) Q := by
  refine S_of (by decide) rfl ?_
  show G sc mX10_show 0 [some (aR 389), some (aI t), none, none] [] (mk S) Q
  have hn := ha.1
  have z1 : (1 : Int64).toInt = 1 := rfl
  have z12 : (12 : Int64).toInt = 12 := rfl
  have y4 : (nI 4).toInt = 4 := rfl
  have ha1 : MIa (upX S 389 9 (nI 0)) := MIa_of ha (upX_n (by omega)) (fun _ => rfl) (fun _ => rfl)
  have hth1 : thN (upX S 389 9 (nI 0)) = thN S := by unfold thN; rw [upX_n (by omega)]
  have hcn : ∀ n, cntS (upX S 389 9 (nI 0)) (nI 1) n = cntS S (nI 1) n := by
    intro n
    induction n with
    | zero => rfl
    | succ n ih => show cntS (upX S 389 9 (nI 0)) (nI 1) n + _ = cntS S (nI 1) n + _; rw [ih]; rfl
  refine G_aload_n (pc := 0) dX10_show_0 rfl rfl ?_
  refine G_iload_n (pc := 1) dX10_show_1 rfl rfl ?_
  refine S_callV (av := [_]) (pc := 2) (z := mX10_isThing) (ci := 9) dX10_show_2 zX10_isThing lX10_show_105 rfl (by first | rfl | assumption) rfl rfl (sX10_isThing hn.1 (by omega) ⟨_, rfl, ?_⟩)
  refine B_if_ne (pc := 5) (tgt := 10) dX10_show_5 (by decide) (fun c5 => ?_) (fun c5 => ?_)
  · skip
    obtain ⟨k, hk, rfl⟩ := isTh_of c5
    have hs := hb k hk
    have hc := cntS_le S (nI 1) (thN S)
    refine G_aload_n (pc := 10) dX10_show_10 rfl rfl ?_
    refine S_getI (pc := 11) dX10_show_11 fX10_96 rfl (by first | rfl | assumption) rfl ?_
    rw [hl.1]
    refine G_istore_n (pc := 14) dX10_show_14 rfl (by decide) rfl ?_
    refine G_aload_n (pc := 15) dX10_show_15 rfl rfl ?_
    refine G_iconst (pc := 16) (v := nI 0) dX10_show_16 (by decide) ?_
    refine S_putI (pc := 17) dX10_show_17 fX10_96 (by decide) rfl (by first | rfl | assumption) rfl ?_
    refine G_iload_n (pc := 20) dX10_show_20 rfl rfl ?_
    refine G_i2l (pc := 21) dX10_show_21 ?_
    refine G_lconst (pc := 22) (v := 1) dX10_show_22 (by decide) ?_
    refine G_ldc2 (pc := 23) dX10_show_23 kX10_167 ?_
    refine S_callS (av := [_, _, _]) (pc := 26) (z := mX10_in) dX10_show_26 zX10_in lX10_show_84 rfl (sX10_in ⟨_, rfl, ?_⟩)
    refine B_if_ne (pc := 29) (tgt := 35) dX10_show_29 (by decide) (fun c29 => ?_) (fun c29 => ?_)
    · skip
      rw [decide_eq_true_iff, Int32.toInt_toInt64, z1, z12, nIt (by omega)] at c29
      refine G_aload_n (pc := 35) dX10_show_35 rfl rfl ?_
      refine G_iconst (pc := 36) (v := nI 1) dX10_show_36 (by decide) ?_
      refine S_callV (av := [_]) (pc := 37) (z := mX10_countOf) (ci := 9) dX10_show_37 zX10_countOf lX10_show_169 rfl (by first | rfl | assumption) rfl rfl (sX10_countOf ha1 ⟨_, rfl, ?_⟩)
      rw [hth1, hcn]
      refine G_aload_n (pc := 40) dX10_show_40 rfl rfl ?_
      refine S_getR (pc := 41) (b := 392) dX10_show_41 fX10_16 rfl rfl (by first | rfl | assumption) rfl rfl ?_
      refine G_iload_n (pc := 44) dX10_show_44 rfl rfl ?_
      refine N_iald (pc := 45) dX10_show_45 (by first | rfl | assumption) (by first | rfl | assumption) (by omega) ?_
      rw [show (upX S 389 9 (nI 0)).2.1 392 k = nI (stN S k) from hs.1.1]
      refine G_iconst (pc := 46) (v := nI 1) dX10_show_46 (by decide) ?_
      refine N_icmp_ne (pc := 47) (tgt := 54) dX10_show_47 (by decide) (by omega) (fun c47 => ?_) (fun c47 => ?_)
      · skip
        refine G_iconst (pc := 54) (v := nI 0) dX10_show_54 (by decide) ?_
        refine G_isub (pc := 55) dX10_show_55 ?_
        refine G_iconst (pc := 56) (v := nI 4) dX10_show_56 (by decide) ?_
        refine T_icmp_ne (pc := 57) (tgt := 63) dX10_show_57 (by decide) (fun c57 => ?_) (fun c57 => ?_)
        · skip
          rw [pk_sub_toInt (by omega) (by omega), y4] at c57
          refine G_iconst (pc := 63) (v := nI 0) dX10_show_63 (by decide) ?_
          refine G_istore_n (pc := 64) dX10_show_64 rfl (by decide) rfl ?_
          have hok := hok k rfl hk c5 (by omega) (by first | (rw [if_neg c47]; omega) | (rw [if_pos c47]; omega))
          have e0 : mk (upX S 389 9 (nI 0)) = mk (upR (upX S 389 9 (nI 0)) 393 (36 * k) 0 ((upX S 389 9 (nI 0)).2.1 396)) := by rw [upR_0]
          rw [e0]
          refine show_lp (by omega) (by omega) l.length 0 (by omega) ?_
          refine G_aload_n (pc := 93) dX10_show_93 rfl rfl ?_
          refine S_getR (pc := 94) (b := 394) dX10_show_94 fX10_22 rfl rfl (by first | rfl | assumption) rfl rfl ?_
          refine G_iload_n (pc := 97) dX10_show_97 rfl rfl ?_
          refine G_iload_n (pc := 98) dX10_show_98 rfl rfl ?_
          refine N_iast (pc := 99) dX10_show_99 (by first | rfl | assumption) (by first | rfl | assumption) (by omega) ?_
          refine G_aload_n (pc := 100) dX10_show_100 rfl rfl ?_
          refine S_getR (pc := 101) (b := 392) dX10_show_101 fX10_16 rfl rfl (by first | rfl | assumption) rfl rfl ?_
          refine G_iload_n (pc := 104) dX10_show_104 rfl rfl ?_
          refine G_iconst (pc := 105) (v := nI 1) dX10_show_105 (by decide) ?_
          refine N_iast (pc := 106) dX10_show_106 (by first | rfl | assumption) (by first | rfl | assumption) (by omega) ?_
          refine G_aload_n (pc := 107) dX10_show_107 rfl rfl ?_
          refine S_getR (pc := 108) (b := 395) dX10_show_108 fX10_25 rfl rfl (by first | rfl | assumption) rfl rfl ?_
          refine G_iload_n (pc := 111) dX10_show_111 rfl rfl ?_
          refine G_iconst (pc := 112) (v := nI 0) dX10_show_112 (by decide) ?_
          refine N_iast (pc := 113) dX10_show_113 (by first | rfl | assumption) (by first | rfl | assumption) (by omega) ?_
          refine G_aload_n (pc := 114) dX10_show_114 rfl rfl ?_
          refine G_iconst (pc := 115) (v := nI 1) dX10_show_115 (by decide) ?_
          refine S_callV (av := [_]) (pc := 116) (z := mX10_countOf) (ci := 9) dX10_show_116 zX10_countOf lX10_show_169 rfl (by first | rfl | assumption) rfl rfl (sX10_countOf ?_ ⟨_, rfl, ?_⟩)
          · refine MIa_of ha1 rfl (fun i => ?_) (fun i => ?_)
            · rw [upI_n (by omega), upI_n (by omega), upI_n (by omega), upR_n (by omega)]
            · rw [upI_n (by omega), upI_n (by omega), upI_n (by omega), upR_n (by omega)]
          refine S_iret (pc := 119) dX10_show_119 rfl ?_
          exact q_i hok (by rw [← hth1]; rfl)
        · skip
          rw [pk_sub_toInt (by omega) (by omega), y4] at c57
          refine G_bipush (pc := 60) (v := (-3)) dX10_show_60 (by decide) ?_
          refine S_iret (pc := 62) dX10_show_62 rfl ?_
          exact hfull k rfl hk c5 (by omega) (by first | (rw [if_neg c47]; omega) | (rw [if_pos c47]; omega))
      · skip
        refine G_iconst (pc := 50) (v := nI 1) dX10_show_50 (by decide) ?_
        refine G_goto (pc := 51) (tgt := 55) dX10_show_51 (by decide) ?_
        refine G_isub (pc := 55) dX10_show_55 ?_
        refine G_iconst (pc := 56) (v := nI 4) dX10_show_56 (by decide) ?_
        refine T_icmp_ne (pc := 57) (tgt := 63) dX10_show_57 (by decide) (fun c57 => ?_) (fun c57 => ?_)
        · skip
          rw [pk_sub_toInt (by omega) (by omega), y4] at c57
          refine G_iconst (pc := 63) (v := nI 0) dX10_show_63 (by decide) ?_
          refine G_istore_n (pc := 64) dX10_show_64 rfl (by decide) rfl ?_
          have hok := hok k rfl hk c5 (by omega) (by first | (rw [if_neg c47]; omega) | (rw [if_pos c47]; omega))
          have e0 : mk (upX S 389 9 (nI 0)) = mk (upR (upX S 389 9 (nI 0)) 393 (36 * k) 0 ((upX S 389 9 (nI 0)).2.1 396)) := by rw [upR_0]
          rw [e0]
          refine show_lp (by omega) (by omega) l.length 0 (by omega) ?_
          refine G_aload_n (pc := 93) dX10_show_93 rfl rfl ?_
          refine S_getR (pc := 94) (b := 394) dX10_show_94 fX10_22 rfl rfl (by first | rfl | assumption) rfl rfl ?_
          refine G_iload_n (pc := 97) dX10_show_97 rfl rfl ?_
          refine G_iload_n (pc := 98) dX10_show_98 rfl rfl ?_
          refine N_iast (pc := 99) dX10_show_99 (by first | rfl | assumption) (by first | rfl | assumption) (by omega) ?_
          refine G_aload_n (pc := 100) dX10_show_100 rfl rfl ?_
          refine S_getR (pc := 101) (b := 392) dX10_show_101 fX10_16 rfl rfl (by first | rfl | assumption) rfl rfl ?_
          refine G_iload_n (pc := 104) dX10_show_104 rfl rfl ?_
          refine G_iconst (pc := 105) (v := nI 1) dX10_show_105 (by decide) ?_
          refine N_iast (pc := 106) dX10_show_106 (by first | rfl | assumption) (by first | rfl | assumption) (by omega) ?_
          refine G_aload_n (pc := 107) dX10_show_107 rfl rfl ?_
          refine S_getR (pc := 108) (b := 395) dX10_show_108 fX10_25 rfl rfl (by first | rfl | assumption) rfl rfl ?_
          refine G_iload_n (pc := 111) dX10_show_111 rfl rfl ?_
          refine G_iconst (pc := 112) (v := nI 0) dX10_show_112 (by decide) ?_
          refine N_iast (pc := 113) dX10_show_113 (by first | rfl | assumption) (by first | rfl | assumption) (by omega) ?_
          refine G_aload_n (pc := 114) dX10_show_114 rfl rfl ?_
          refine G_iconst (pc := 115) (v := nI 1) dX10_show_115 (by decide) ?_
          refine S_callV (av := [_]) (pc := 116) (z := mX10_countOf) (ci := 9) dX10_show_116 zX10_countOf lX10_show_169 rfl (by first | rfl | assumption) rfl rfl (sX10_countOf ?_ ⟨_, rfl, ?_⟩)
          · refine MIa_of ha1 rfl (fun i => ?_) (fun i => ?_)
            · rw [upI_n (by omega), upI_n (by omega), upI_n (by omega), upR_n (by omega)]
            · rw [upI_n (by omega), upI_n (by omega), upI_n (by omega), upR_n (by omega)]
          refine S_iret (pc := 119) dX10_show_119 rfl ?_
          exact q_i hok (by rw [← hth1]; rfl)
        · skip
          rw [pk_sub_toInt (by omega) (by omega), y4] at c57
          refine G_bipush (pc := 60) (v := (-3)) dX10_show_60 (by decide) ?_
          refine S_iret (pc := 62) dX10_show_62 rfl ?_
          exact hfull k rfl hk c5 (by omega) (by first | (rw [if_neg c47]; omega) | (rw [if_pos c47]; omega))
    · skip
      rw [decide_eq_false_iff_not, Int32.toInt_toInt64, z1, z12, nIt (by omega)] at c29
      refine G_bipush (pc := 32) (v := (-2)) dX10_show_32 (by decide) ?_
      refine S_iret (pc := 34) dX10_show_34 rfl ?_
      exact hnot k rfl hk c5 (by omega)
  · skip
    refine G_iconst (pc := 8) (v := (-1)) dX10_show_8 (by decide) ?_
    refine S_iret (pc := 9) dX10_show_9 rfl ?_
    exact hbad c5
end M15
