/-! the class: Fit.rankPairs, Fit.rankTriples -/
section C16
variable {sc : SC} {S : ST} {Q : Option AV → HM → Prop}
theorem two1_mt {S : ST} {ts : List Nat} {c : Nat} {q : Nat × Nat} (hts : TsOk S ts) (h0 : ts ≠ []) (hby : EnBy S ts) (hq : q ∈ frA S ts) : two1q S ts (bhA S ts) c q = (mtI (LBo S ts) q.2 ((c : Int) - costN q.1)).map (wiQ q.1 none) := by
  obtain ⟨u, e, hu⟩ := FU_fr q hq
  have h1 := mtI_wi (k := 0) (fp := q.1) (mid := none) (c := (c : Int) - costN q.1) hts h0 (by omega) FU_bh (TyP_bh h0 hby) (fun x hx => ((bhA_ok h0 hts hby).1 x hx).1) e hu
  rw [Nat.zero_mul, Nat.add_zero] at h1
  exact h1.symm
theorem thr1_mt {S : ST} {ts : List Nat} {c m w : Nat} {q : Nat × Nat} (hts : TsOk S ts) (h0 : ts ≠ []) (hby : EnBy S ts) (hq : q ∈ frA S ts) (hm : m ≤ 3) (hw : typG S q.2 m ts 0 0 = some w) : thr1q S ts (bhA S ts) c m q = (mtI (LBo S ts) (q.2 + m * stpN ts) ((c : Int) - costN q.1 - 2 - m)).map (wiQ q.1 (some w)) := by
  obtain ⟨u, e, hu⟩ := FU_fr q hq
  have h1 := mtI_wi (k := m) (fp := q.1) (mid := some w) (c := (c : Int) - costN q.1 - 2 - m) hts h0 hm FU_bh (TyP_bh h0 hby) (fun x hx => ((bhA_ok h0 hts hby).1 x hx).1) e hu
  unfold thr1q
  rw [hw]
  exact h1.symm
/-- the chain of last pieces, as the loops go through it -/
theorem mtI_ch {LB : List (Nat × Nat)} {x : Nat} {c : Int} : ∃ c' d i0, i0 + d = LB.length ∧ fiI LB x c = fi LB x c' d i0 ∧ mtI LB x c = mt LB x c' d i0 := by
  unfold fiI mtI
  by_cases h : 3 ≤ c ∧ c ≤ 5
  · rw [if_pos h, if_pos h]
    exact ⟨c.toNat, LB.length, 0, by omega, rfl, rfl⟩
  · rw [if_neg h, if_neg h]
    exact ⟨0, 0, LB.length, by omega, rfl, rfl⟩
theorem fb_z {S : ST} {ts : List Nat} {LB : List (Nat × Nat)} {L : Nat} : fbG S ts LB L 3 < 16 := fbG_lt 3
set_option maxRecDepth 100000 in
set_option maxHeartbeats 4000000 in
theorem rankP_lp {S0 : ST} {ts : List Nat} {i x c' : Nat} {q : Nat × Nat} {xc xr : Int32} (hts : TsOk S0 ts) (h0 : ts ≠ []) (hby : EnBy S0 ts) (hi : i < (FJo S0 ts).length) (hq : (FJo S0 ts).getD i (0, 0) = q) (hFl : (FJo S0 ts).length ≤ 4803) :
    ∀ (n d i0 m : Nat) (N : List (List Nat)) (S : ST) (o6 : Option AV), d ≤ n → m ≤ N.length → i0 + d = (LBo S0 ts).length → FtM S0 S ts → NrIs S N → N.length ≤ capN S0 ts → (∀ S', Fr nrX nrA S S' → NrIs S' (tkc (capN S0 ts) N ((mt (LBo S0 ts) x c' d i0).map (wiQ q.1 none))) → Q none (mk S')) →
      G sc mX0_rankPairs 43 [some (aR 6), some (aI (nI i)), some (aI xc), some (aI xr), some (aI (midI (fi (LBo S0 ts) x c' d i0))), some (aI (nI m)), o6] [] (mk S) Q := by
  have b1 := fitN_le (n := 1) hts h0 hby
  have b2 := fitN_le (n := 2) hts h0 hby
  have b3 := fitN_le (n := 3) hts h0 hby
  intro n
  induction n with
  | zero =>
    intro d i0 m N S o6 hd hm hi0 hM hN hNl h
    have hN64 := hN.2.1
    have e : d = 0 := by omega
    subst e
    have h : ∀ S', Fr nrX nrA S S' → NrIs S' (tkc (capN S0 ts) N []) → Q none (mk S') := h
    rw [tkc_nil hNl] at h
    rw [show fi (LBo S0 ts) x c' 0 i0 = none from rfl]
    refine G_iload (pc := 43) dX0_rankPairs_43 rfl ?_
    refine G_bipush (pc := 45) (v := nI 64) dX0_rankPairs_45 (by decide) ?_
    refine N_icmp_ge (pc := 47) (tgt := 110) dX0_rankPairs_47 (by decide) (by omega) (fun c47 => ?_) (fun c47 => ?_)
    · skip
      refine S_vret (pc := 110) dX0_rankPairs_110 rfl ?_
      exact h S Fr.rf hN
    · skip
      refine G_iload (pc := 50) dX0_rankPairs_50 rfl ?_
      refine T_if_lt (pc := 52) (tgt := 110) dX0_rankPairs_52 (by decide) (fun c52 => ?_) (fun c52 => absurd c52 (by decide))
      refine S_vret (pc := 110) dX0_rankPairs_110 rfl ?_
      exact h S Fr.rf hN
  | succ n ih =>
    intro d i0 m N S o6 hd hm hi0 hM hN hNl h
    have hN64 := hN.2.1
    rcases hfi : fi (LBo S0 ts) x c' d i0 with _ | j
    · rw [mt_none _ _ hfi, List.map_nil, tkc_nil hNl] at h
      refine G_iload (pc := 43) dX0_rankPairs_43 rfl ?_
      refine G_bipush (pc := 45) (v := nI 64) dX0_rankPairs_45 (by decide) ?_
      refine N_icmp_ge (pc := 47) (tgt := 110) dX0_rankPairs_47 (by decide) (by omega) (fun c47 => ?_) (fun c47 => ?_)
      · skip
        refine S_vret (pc := 110) dX0_rankPairs_110 rfl ?_
        exact h S Fr.rf hN
      · skip
        refine G_iload (pc := 50) dX0_rankPairs_50 rfl ?_
        refine T_if_lt (pc := 52) (tgt := 110) dX0_rankPairs_52 (by decide) (fun c52 => ?_) (fun c52 => absurd c52 (by decide))
        refine S_vret (pc := 110) dX0_rankPairs_110 rfl ?_
        exact h S Fr.rf hN
    · obtain ⟨j1, j2, j3, j4⟩ := fi_some _ _ hfi
      have hjl : j < (LBo S0 ts).length := by omega
      obtain ⟨m1, m2, m3⟩ := hM.cnt hts h0 hby
      obtain ⟨hH, hWh, ⟨g, hLa⟩, ⟨h9, hJ⟩, h13, h14⟩ := id hM
      have hll : (LBo S0 ts).length ≤ 4803 := by obtain ⟨a1, a2, -⟩ := hLa; exact a2.2
      have hJi := hJ i hi
      rw [hq] at hJi
      rw [midI_s]
      rw [mt_some _ _ hfi, List.map_cons] at h
      refine G_iload (pc := 43) dX0_rankPairs_43 rfl ?_
      refine G_bipush (pc := 45) (v := nI 64) dX0_rankPairs_45 (by decide) ?_
      refine N_icmp_ge (pc := 47) (tgt := 110) dX0_rankPairs_47 (by decide) (by omega) (fun c47 => ?_) (fun c47 => ?_)
      · skip
        rw [tkc_full (by unfold capN at hNl ⊢; omega)] at h
        refine S_vret (pc := 110) dX0_rankPairs_110 rfl ?_
        exact h S Fr.rf hN
      · skip
        refine G_iload (pc := 50) dX0_rankPairs_50 rfl ?_
        refine N_if_lt (pc := 52) (tgt := 110) dX0_rankPairs_52 (by decide) (by omega) ?_
        refine G_aload_n (pc := 55) dX0_rankPairs_55 rfl rfl ?_
        refine S_callV (av := []) (pc := 56) (z := mX0_isRanked) (ci := 0) dX0_rankPairs_56 zX0_isRanked lX0_rankPairs_134 rfl (by first | rfl | assumption) rfl rfl (sX0_isRanked m1 m2 m3 (by omega) hN.1 hN64 ⟨_, rfl, ?_⟩)
        refine B_if_ne (pc := 59) (tgt := 110) dX0_rankPairs_59 (by decide) (fun c59 => ?_) (fun c59 => ?_)
        · skip
          rw [decide_eq_true_eq] at c59
          rw [tkc_full (by unfold capN at hNl ⊢; omega)] at h
          refine S_vret (pc := 110) dX0_rankPairs_110 rfl ?_
          exact h S Fr.rf hN
        · skip
          rw [decide_eq_false_iff_not] at c59
          have hlt : N.length < capN S0 ts := by unfold capN; omega
          have hl64 : N.length < 64 := by unfold capN at hlt; omega
          obtain ⟨kp1, kp2⟩ := PgK_n N.length hl64
          have F1 : Fr nrX nrA S (nxS S N.length) := nxS_fr hl64
          refine G_aload_n (pc := 62) dX0_rankPairs_62 rfl rfl ?_
          refine S_callV (av := []) (pc := 63) (z := mX0_nextNearest) (ci := 0) dX0_rankPairs_63 zX0_nextNearest lX0_rankPairs_153 rfl (by first | rfl | assumption) rfl rfl (sX0_nextNearest hN.1 hl64 ⟨_, rfl, ?_⟩)
          refine G_astore (pc := 66) dX0_rankPairs_66 (by decide) rfl ?_
          refine G_aload (pc := 68) dX0_rankPairs_68 rfl ?_
          refine G_aload_n (pc := 70) dX0_rankPairs_70 rfl rfl ?_
          refine S_getR (pc := 71) (b := 9) dX0_rankPairs_71 fX0_36 rfl rfl (by first | rfl | assumption) rfl rfl ?_
          refine G_iload_n (pc := 74) dX0_rankPairs_74 rfl rfl ?_
          refine N_iald (pc := 75) dX0_rankPairs_75 (by first | rfl | assumption) (by first | rfl | assumption) (by omega) ?_
          rw [show (nxS S N.length).2.1 9 i = nI q.1 from hJi.1]
          refine S_callV (av := [_]) (pc := 76) (z := mX3_add) (ci := 2) dX0_rankPairs_76 zX3_add lX0_rankPairs_157 rfl (by first | rfl | assumption) rfl rfl (sX3_add ⟨kp1, kp2⟩ nxS_nil (by simp) (fun S2 w1 w2 => ⟨_, rfl, ?_⟩))
          refine G_aload (pc := 79) dX0_rankPairs_79 rfl ?_
          refine G_aload_n (pc := 81) dX0_rankPairs_81 rfl rfl ?_
          refine S_getR (pc := 82) (b := 12) dX0_rankPairs_82 fX0_50 rfl rfl (by first | rfl | assumption) rfl rfl ?_
          refine G_iload (pc := 85) dX0_rankPairs_85 rfl ?_
          refine S_callV (av := [_]) (pc := 87) (z := mX2_pieceAt) (ci := 1) dX0_rankPairs_87 zX2_pieceAt lX0_rankPairs_162 rfl (by first | rfl | assumption) rfl rfl (sX2_pieceAt (hLa.nr (F1.tr (nr_pg hl64 w1))) hjl ⟨_, rfl, ?_⟩)
          refine S_callV (av := [_]) (pc := 90) (z := mX3_add) (ci := 2) dX0_rankPairs_90 zX3_add lX0_rankPairs_157 rfl (by first | rfl | assumption) rfl rfl (sX3_add ⟨kp1, kp2⟩ w2 (by simp) (fun S3 x1 x2 => ⟨_, rfl, ?_⟩))
          refine G_aload_n (pc := 93) dX0_rankPairs_93 rfl rfl ?_
          refine S_getR (pc := 94) (b := 12) dX0_rankPairs_94 fX0_50 rfl rfl (by first | rfl | assumption) rfl rfl ?_
          refine G_iload (pc := 97) dX0_rankPairs_97 rfl ?_
          refine S_callV (av := [_]) (pc := 99) (z := mX2_nextOf) (ci := 1) dX0_rankPairs_99 zX2_nextOf lX0_rankPairs_165 rfl (by first | rfl | assumption) rfl rfl (sX2_nextOf (hLa.nr (F1.tr (nr_pg hl64 (w1.tr x1)))) hjl ⟨_, rfl, ?_⟩)
          refine G_istore (pc := 102) dX0_rankPairs_102 (by decide) rfl ?_
          refine N_iinc (pc := 104) dX0_rankPairs_104 rfl (by decide) rfl ?_
          refine G_goto (pc := 107) (tgt := 43) dX0_rankPairs_107 (by decide) ?_
          rw [j3, j4]
          have g0 := F1.tr (nr_pg hl64 (w1.tr x1))
          have g1 : NrIs S3 (N ++ [wiQ q.1 none ((LBo S0 ts).getD j (0, 0)).1]) := hN.push hl64 (w1.tr x1) x2
          refine ih ((LBo S0 ts).length - (j + 1)) (j + 1) (m + 1) _ S3 _ (by omega) (by simp; omega) (by omega) (hM.nr g0) g1 (by simp; omega) (fun S' f g => h S' (g0.tr f) ?_)
          rw [hi0, show ∀ (a : List Nat) (l : List (List Nat)), a :: l = [a] ++ l from fun _ _ => rfl, ← tkc_app, tkc_1 hlt]
          exact g
set_option maxRecDepth 100000 in
set_option maxHeartbeats 4000000 in
theorem sX0_rankPairs {S0 : ST} {ts : List Nat} {c i : Nat} {q : Nat × Nat} {N : List (List Nat)} (hts : TsOk S0 ts) (h0 : ts ≠ []) (hby : EnBy S0 ts) (hc : c ≤ 15) (hi : i < (FJo S0 ts).length) (hq : (FJo S0 ts).getD i (0, 0) = q) (hqm : q ∈ frA S0 ts) (hM : FtM S0 S ts) (hN : NrIs S N) (hNl : N.length ≤ capN S0 ts) (h : ∀ S', Fr nrX nrA S S' → NrIs S' (tkc (capN S0 ts) N (two1q S0 ts (bhA S0 ts) c q)) → Q none (mk S')) : CT sc mX0_rankPairs [aR 6, aI (nI i), aI (nI c)] (mk S) Q := by
  refine S_of (by decide) rfl ?_
  show G sc mX0_rankPairs 0 [some (aR 6), some (aI (nI i)), some (aI (nI c)), none, none, none, none] [] (mk S) Q
  obtain ⟨hH, hWh, ⟨g, hLa⟩, ⟨h9, hJ⟩, h13, h14⟩ := id hM
  have hJi := hJ i hi
  rw [hq] at hJi
  have l1 := @ffL_len S0 ts (frA S0 ts)
  have l2 := @frA_len S0 ts
  have l3 : (FJo S0 ts).length ≤ (FFo S0 ts).length := List.length_filter_le _ _
  have l3 : (FJo S0 ts).length ≤ (ffL S0 ts (frA S0 ts)).length := l3
  have hpc := ((frA_ok h0 hts hby).1 q hqm)
  have hp2 := isPc_lt hpc.1
  have hcb := cost_b hpc.1
  have hfz := fb_z (S := S0) (ts := ts) (LB := LBo S0 ts) (L := q.2)
  have hf0 := fb_0 (S := S0) (ts := ts) (LB := LBo S0 ts) (L := q.2)
  rw [two1_mt hts h0 hby hqm] at h
  have hrest : (nI c - nI (costN q.1)).toInt = (c : Int) - costN q.1 := by
    rw [sub_toInt (by rw [nIt (by omega), nIt (by omega)]; omega) (by rw [nIt (by omega), nIt (by omega)]; omega), nIt (by omega), nIt (by omega)]
  refine G_aload_n (pc := 0) dX0_rankPairs_0 rfl rfl ?_
  refine S_getR (pc := 1) (b := 11) dX0_rankPairs_1 fX0_42 rfl rfl (by first | rfl | assumption) rfl rfl ?_
  refine G_iload_n (pc := 4) dX0_rankPairs_4 rfl rfl ?_
  refine N_bald (pc := 5) dX0_rankPairs_5 (by first | rfl | assumption) (by first | rfl | assumption) (by omega) ?_
  rw [hJi.2.2]
  refine G_iconst (pc := 6) (v := nI 1) dX0_rankPairs_6 (by decide) ?_
  refine G_iand (pc := 7) dX0_rankPairs_7 ?_
  rw [and1]
  refine N_if_ne (pc := 8) (tgt := 12) dX0_rankPairs_8 (by decide) (by omega) (fun c8 => ?_) (fun c8 => ?_)
  · skip
    refine G_iload_n (pc := 12) dX0_rankPairs_12 rfl rfl ?_
    refine G_aload_n (pc := 13) dX0_rankPairs_13 rfl rfl ?_
    refine S_getR (pc := 14) (b := 9) dX0_rankPairs_14 fX0_36 rfl rfl (by first | rfl | assumption) rfl rfl ?_
    refine G_iload_n (pc := 17) dX0_rankPairs_17 rfl rfl ?_
    refine N_iald (pc := 18) dX0_rankPairs_18 (by first | rfl | assumption) (by first | rfl | assumption) (by omega) ?_
    rw [hJi.1]
    refine S_callS (av := [_]) (pc := 19) (z := mX3_costOf) dX0_rankPairs_19 zX3_costOf lX0_rankPairs_150 rfl (sX3_costOf (by omega) ⟨_, rfl, ?_⟩)
    refine G_isub (pc := 22) dX0_rankPairs_22 ?_
    refine G_istore_n (pc := 23) dX0_rankPairs_23 rfl (by decide) rfl ?_
    refine G_aload_n (pc := 24) dX0_rankPairs_24 rfl rfl ?_
    refine S_getR (pc := 25) (b := 12) dX0_rankPairs_25 fX0_50 rfl rfl (by first | rfl | assumption) rfl rfl ?_
    refine G_aload_n (pc := 28) dX0_rankPairs_28 rfl rfl ?_
    refine S_getR (pc := 29) (b := 10) dX0_rankPairs_29 fX0_39 rfl rfl (by first | rfl | assumption) rfl rfl ?_
    refine G_iload_n (pc := 32) dX0_rankPairs_32 rfl rfl ?_
    refine N_iald (pc := 33) dX0_rankPairs_33 (by first | rfl | assumption) (by first | rfl | assumption) (by omega) ?_
    rw [hJi.2.1]
    refine G_iload_n (pc := 34) dX0_rankPairs_34 rfl rfl ?_
    refine S_callV (av := [_, _]) (pc := 35) (z := mX2_headOf) (ci := 1) dX0_rankPairs_35 zX2_headOf lX0_rankPairs_159 rfl (by first | rfl | assumption) rfl rfl (sX2_headOf hLa hpc.2 ⟨_, rfl, ?_⟩)
    rw [hrest]
    refine G_istore (pc := 38) dX0_rankPairs_38 (by decide) rfl ?_
    refine G_iconst (pc := 40) (v := nI 0) dX0_rankPairs_40 (by decide) ?_
    refine G_istore (pc := 41) dX0_rankPairs_41 (by decide) rfl ?_
    obtain ⟨c', d, i0, e1, e2, e3⟩ := mtI_ch (LB := LBo S0 ts) (x := q.2) (c := (c : Int) - costN q.1)
    rw [e2]
    rw [e3] at h
    exact rankP_lp hts h0 hby hi hq (by omega) d d i0 0 N S _ (Nat.le_refl _) (Nat.zero_le _) e1 hM hN hNl h
  · skip
    refine S_vret (pc := 11) dX0_rankPairs_11 rfl ?_
    rw [c8] at hf0
    rw [mtI_nil (by by_cases z : 0 < cntB (LBo S0 ts) q.2; rw [if_pos z] at hf0; omega; omega), List.map_nil, tkc_nil hNl] at h
    exact h S Fr.rf hN
set_option maxRecDepth 100000 in
set_option maxHeartbeats 4000000 in
theorem rankT_in {S0 : ST} {ts : List Nat} {i x c' k w : Nat} {q : Nat × Nat} {xc xr : Int32} (hts : TsOk S0 ts) (h0 : ts ≠ []) (hby : EnBy S0 ts) (hi : i < (FJo S0 ts).length) (hq : (FJo S0 ts).getD i (0, 0) = q) (hFl : (FJo S0 ts).length ≤ 4803) (hk : 1 ≤ k ∧ k ≤ 3) (hq2 : q.2 < 65536) (hw : typG S0 q.2 k ts 0 0 = some w) :
    ∀ (n d i0 m : Nat) (N : List (List Nat)) (S : ST) (o7 : Option AV), d ≤ n → m ≤ N.length → i0 + d = (LBo S0 ts).length → FtM S0 S ts → NrIs S N → N.length ≤ capN S0 ts → (∀ (S' : ST) (o5 o6 o7 : Option AV), Fr nrX nrA S S' → NrIs S' (tkc (capN S0 ts) N ((mt (LBo S0 ts) x c' d i0).map (wiQ q.1 (some w)))) → G sc mX0_rankTriples 150 [some (aR 6), some (aI (nI i)), some (aI xc), some (aI (nI k)), some (aI xr), o5, o6, o7] [] (mk S') Q) →
      G sc mX0_rankTriples 67 [some (aR 6), some (aI (nI i)), some (aI xc), some (aI (nI k)), some (aI xr), some (aI (midI (fi (LBo S0 ts) x c' d i0))), some (aI (nI m)), o7] [] (mk S) Q := by
  have b1 := fitN_le (n := 1) hts h0 hby
  have b2 := fitN_le (n := 2) hts h0 hby
  have b3 := fitN_le (n := 3) hts h0 hby
  intro n
  induction n with
  | zero =>
    intro d i0 m N S o7 hd hm hi0 hM hN hNl h
    have hN64 := hN.2.1
    have e : d = 0 := by omega
    subst e
    rw [show mt (LBo S0 ts) x c' 0 i0 = [] from rfl, List.map_nil, tkc_nil hNl] at h
    rw [show fi (LBo S0 ts) x c' 0 i0 = none from rfl]
    refine G_iload (pc := 67) dX0_rankTriples_67 rfl ?_
    refine G_bipush (pc := 69) (v := nI 64) dX0_rankTriples_69 (by decide) ?_
    refine N_icmp_ge (pc := 71) (tgt := 150) dX0_rankTriples_71 (by decide) (by omega) (fun c71 => ?_) (fun c71 => ?_)
    · skip
      exact h S _ _ _ Fr.rf hN
    · skip
      refine G_iload (pc := 74) dX0_rankTriples_74 rfl ?_
      refine T_if_lt (pc := 76) (tgt := 150) dX0_rankTriples_76 (by decide) (fun c76 => ?_) (fun c76 => absurd c76 (by decide))
      exact h S _ _ _ Fr.rf hN
  | succ n ih =>
    intro d i0 m N S o7 hd hm hi0 hM hN hNl h
    have hN64 := hN.2.1
    rcases hfi : fi (LBo S0 ts) x c' d i0 with _ | j
    · rw [mt_none _ _ hfi, List.map_nil, tkc_nil hNl] at h
      refine G_iload (pc := 67) dX0_rankTriples_67 rfl ?_
      refine G_bipush (pc := 69) (v := nI 64) dX0_rankTriples_69 (by decide) ?_
      refine N_icmp_ge (pc := 71) (tgt := 150) dX0_rankTriples_71 (by decide) (by omega) (fun c71 => ?_) (fun c71 => ?_)
      · skip
        exact h S _ _ _ Fr.rf hN
      · skip
        refine G_iload (pc := 74) dX0_rankTriples_74 rfl ?_
        refine T_if_lt (pc := 76) (tgt := 150) dX0_rankTriples_76 (by decide) (fun c76 => ?_) (fun c76 => absurd c76 (by decide))
        exact h S _ _ _ Fr.rf hN
    · obtain ⟨j1, j2, j3, j4⟩ := fi_some _ _ hfi
      have hjl : j < (LBo S0 ts).length := by omega
      obtain ⟨m1, m2, m3⟩ := hM.cnt hts h0 hby
      obtain ⟨hH, hWh, ⟨g, hLa⟩, ⟨h9, hJ⟩, h13, h14⟩ := id hM
      have hll : (LBo S0 ts).length ≤ 4803 := by obtain ⟨a1, a2, -⟩ := hLa; exact a2.2
      have hJi := hJ i hi
      rw [hq] at hJi
      rw [midI_s]
      rw [mt_some _ _ hfi, List.map_cons] at h
      refine G_iload (pc := 67) dX0_rankTriples_67 rfl ?_
      refine G_bipush (pc := 69) (v := nI 64) dX0_rankTriples_69 (by decide) ?_
      refine N_icmp_ge (pc := 71) (tgt := 150) dX0_rankTriples_71 (by decide) (by omega) (fun c71 => ?_) (fun c71 => ?_)
      · skip
        rw [tkc_full (by unfold capN at hNl ⊢; omega)] at h
        exact h S _ _ _ Fr.rf hN
      · skip
        refine G_iload (pc := 74) dX0_rankTriples_74 rfl ?_
        refine N_if_lt (pc := 76) (tgt := 150) dX0_rankTriples_76 (by decide) (by omega) ?_
        refine G_aload_n (pc := 79) dX0_rankTriples_79 rfl rfl ?_
        refine S_callV (av := []) (pc := 80) (z := mX0_isRanked) (ci := 0) dX0_rankTriples_80 zX0_isRanked lX0_rankTriples_134 rfl (by first | rfl | assumption) rfl rfl (sX0_isRanked m1 m2 m3 (by omega) hN.1 hN64 ⟨_, rfl, ?_⟩)
        refine B_if_ne (pc := 83) (tgt := 150) dX0_rankTriples_83 (by decide) (fun c83 => ?_) (fun c83 => ?_)
        · skip
          rw [decide_eq_true_eq] at c83
          rw [tkc_full (by unfold capN at hNl ⊢; omega)] at h
          exact h S _ _ _ Fr.rf hN
        · skip
          rw [decide_eq_false_iff_not] at c83
          have hlt : N.length < capN S0 ts := by unfold capN; omega
          have hl64 : N.length < 64 := by unfold capN at hlt; omega
          obtain ⟨kp1, kp2⟩ := PgK_n N.length hl64
          have F1 : Fr nrX nrA S (nxS S N.length) := nxS_fr hl64
          refine G_aload_n (pc := 86) dX0_rankTriples_86 rfl rfl ?_
          refine S_callV (av := []) (pc := 87) (z := mX0_nextNearest) (ci := 0) dX0_rankTriples_87 zX0_nextNearest lX0_rankTriples_153 rfl (by first | rfl | assumption) rfl rfl (sX0_nextNearest hN.1 hl64 ⟨_, rfl, ?_⟩)
          refine G_astore (pc := 90) dX0_rankTriples_90 (by decide) rfl ?_
          refine G_aload (pc := 92) dX0_rankTriples_92 rfl ?_
          refine G_aload_n (pc := 94) dX0_rankTriples_94 rfl rfl ?_
          refine S_getR (pc := 95) (b := 9) dX0_rankTriples_95 fX0_36 rfl rfl (by first | rfl | assumption) rfl rfl ?_
          refine G_iload_n (pc := 98) dX0_rankTriples_98 rfl rfl ?_
          refine N_iald (pc := 99) dX0_rankTriples_99 (by first | rfl | assumption) (by first | rfl | assumption) (by omega) ?_
          rw [show (nxS S N.length).2.1 9 i = nI q.1 from hJi.1]
          refine S_callV (av := [_]) (pc := 100) (z := mX3_add) (ci := 2) dX0_rankTriples_100 zX3_add lX0_rankTriples_157 rfl (by first | rfl | assumption) rfl rfl (sX3_add ⟨kp1, kp2⟩ nxS_nil (by simp) (fun S2 w1 w2 => ⟨_, rfl, ?_⟩))
          refine G_aload (pc := 103) dX0_rankTriples_103 rfl ?_
          refine G_aload_n (pc := 105) dX0_rankTriples_105 rfl rfl ?_
          refine G_aload_n (pc := 106) dX0_rankTriples_106 rfl rfl ?_
          refine S_getR (pc := 107) (b := 10) dX0_rankTriples_107 fX0_39 rfl rfl (by first | rfl | assumption) rfl rfl ?_
          refine G_iload_n (pc := 110) dX0_rankTriples_110 rfl rfl ?_
          refine N_iald (pc := 111) dX0_rankTriples_111 (by first | rfl | assumption) (by first | rfl | assumption) (by omega) ?_
          rw [show S2.2.1 10 i = nI q.2 from (w1.2.1 10 (by show ¬ _ = _; omega) i).trans hJi.2.1]
          refine G_iload_n (pc := 112) dX0_rankTriples_112 rfl rfl ?_
          refine S_callV (av := [_, _]) (pc := 113) (z := mX0_typedIn) (ci := 0) dX0_rankTriples_113 zX0_typedIn lX0_rankTriples_115 rfl (by first | rfl | assumption) rfl rfl (sX0_typedIn hq2 hk hts hby h0 (hH.fr (ft_nr (F1.tr (nr_pg hl64 w1)))) ⟨_, rfl, ?_⟩)
          rw [hw, oI_s]
          refine S_callV (av := [_]) (pc := 116) (z := mX3_add) (ci := 2) dX0_rankTriples_116 zX3_add lX0_rankTriples_157 rfl (by first | rfl | assumption) rfl rfl (sX3_add ⟨kp1, kp2⟩ w2 (by simp) (fun S3 x1 x2 => ⟨_, rfl, ?_⟩))
          refine G_aload (pc := 119) dX0_rankTriples_119 rfl ?_
          refine G_aload_n (pc := 121) dX0_rankTriples_121 rfl rfl ?_
          refine S_getR (pc := 122) (b := 12) dX0_rankTriples_122 fX0_50 rfl rfl (by first | rfl | assumption) rfl rfl ?_
          refine G_iload (pc := 125) dX0_rankTriples_125 rfl ?_
          refine S_callV (av := [_]) (pc := 127) (z := mX2_pieceAt) (ci := 1) dX0_rankTriples_127 zX2_pieceAt lX0_rankTriples_162 rfl (by first | rfl | assumption) rfl rfl (sX2_pieceAt (hLa.nr (F1.tr (nr_pg hl64 (w1.tr x1)))) hjl ⟨_, rfl, ?_⟩)
          refine S_callV (av := [_]) (pc := 130) (z := mX3_add) (ci := 2) dX0_rankTriples_130 zX3_add lX0_rankTriples_157 rfl (by first | rfl | assumption) rfl rfl (sX3_add ⟨kp1, kp2⟩ x2 (by simp) (fun S4 y1 y2 => ⟨_, rfl, ?_⟩))
          refine G_aload_n (pc := 133) dX0_rankTriples_133 rfl rfl ?_
          refine S_getR (pc := 134) (b := 12) dX0_rankTriples_134 fX0_50 rfl rfl (by first | rfl | assumption) rfl rfl ?_
          refine G_iload (pc := 137) dX0_rankTriples_137 rfl ?_
          refine S_callV (av := [_]) (pc := 139) (z := mX2_nextOf) (ci := 1) dX0_rankTriples_139 zX2_nextOf lX0_rankTriples_165 rfl (by first | rfl | assumption) rfl rfl (sX2_nextOf (hLa.nr (F1.tr (nr_pg hl64 (w1.tr (x1.tr y1))))) hjl ⟨_, rfl, ?_⟩)
          refine G_istore (pc := 142) dX0_rankTriples_142 (by decide) rfl ?_
          refine N_iinc (pc := 144) dX0_rankTriples_144 rfl (by decide) rfl ?_
          refine G_goto (pc := 147) (tgt := 67) dX0_rankTriples_147 (by decide) ?_
          rw [j3, j4]
          have g0 := F1.tr (nr_pg hl64 (w1.tr (x1.tr y1)))
          have g1 : NrIs S4 (N ++ [wiQ q.1 (some w) ((LBo S0 ts).getD j (0, 0)).1]) := hN.push hl64 (w1.tr (x1.tr y1)) y2
          refine ih ((LBo S0 ts).length - (j + 1)) (j + 1) (m + 1) _ S4 _ (by omega) (by simp; omega) (by omega) (hM.nr g0) g1 (by simp; omega) (fun S' o5 o6 o7 f g => h S' o5 o6 o7 (g0.tr f) ?_)
          rw [hi0, show ∀ (a : List Nat) (l : List (List Nat)), a :: l = [a] ++ l from fun _ _ => rfl, ← tkc_app, tkc_1 hlt]
          exact g
/-- programs of three pieces with k typed bytes or more in the middle -/
def thrR (S : ST) (ts : List Nat) (B : List (Nat × Nat)) (c : Nat) (q : Nat × Nat) : Nat → Nat → List (List Nat)
  | 0, _ => []
  | d + 1, m => thr1q S ts B c m q ++ thrR S ts B c q d (m + 1)
set_option maxRecDepth 100000 in
set_option maxHeartbeats 4000000 in
theorem rankT_lp {S0 : ST} {ts : List Nat} {c i : Nat} {q : Nat × Nat} (hts : TsOk S0 ts) (h0 : ts ≠ []) (hby : EnBy S0 ts) (hc : c ≤ 15) (hi : i < (FJo S0 ts).length) (hq : (FJo S0 ts).getD i (0, 0) = q) (hqm : q ∈ frA S0 ts) :
    ∀ (d k : Nat) (N : List (List Nat)) (S : ST) (o4 o5 o6 o7 : Option AV), k + d = 4 → 1 ≤ k → FtM S0 S ts → NrIs S N → N.length ≤ capN S0 ts → (∀ S', Fr nrX nrA S S' → NrIs S' (tkc (capN S0 ts) N (thrR S0 ts (bhA S0 ts) c q d k)) → Q none (mk S')) →
      G sc mX0_rankTriples 2 [some (aR 6), some (aI (nI i)), some (aI (nI c)), some (aI (nI k)), o4, o5, o6, o7] [] (mk S) Q := by
  have l1 := @ffL_len S0 ts (frA S0 ts)
  have l2 := @frA_len S0 ts
  have l3 : (FJo S0 ts).length ≤ (FFo S0 ts).length := List.length_filter_le _ _
  have l3 : (FJo S0 ts).length ≤ (ffL S0 ts (frA S0 ts)).length := l3
  have hpc := ((frA_ok h0 hts hby).1 q hqm)
  have hp2 := isPc_lt hpc.1
  have hcb := cost_b hpc.1
  have hfz := fb_z (S := S0) (ts := ts) (LB := LBo S0 ts) (L := q.2)
  intro d
  induction d with
  | zero =>
    intro k N S o4 o5 o6 o7 hk hk1 hM hN hNl h
    have h : ∀ S', Fr nrX nrA S S' → NrIs S' (tkc (capN S0 ts) N []) → Q none (mk S') := h
    rw [tkc_nil hNl] at h
    refine G_iload_n (pc := 2) dX0_rankTriples_2 rfl rfl ?_
    refine G_iconst (pc := 3) (v := nI 3) dX0_rankTriples_3 (by decide) ?_
    refine N_icmp_gt (pc := 4) (tgt := 156) dX0_rankTriples_4 (by decide) (by omega) (fun c4 => ?_) (fun c4 => absurd c4 (by omega))
    refine S_vret (pc := 156) dX0_rankTriples_156 rfl ?_
    exact h S Fr.rf hN
  | succ d ih =>
    intro k N S o4 o5 o6 o7 hk hk1 hM hN hNl h
    obtain ⟨hH, hWh, ⟨g, hLa⟩, ⟨h9, hJ⟩, h13, h14⟩ := id hM
    have hJi := hJ i hi
    rw [hq] at hJi
    have e0 : thrR S0 ts (bhA S0 ts) c q (d + 1) k = thr1q S0 ts (bhA S0 ts) c k q ++ thrR S0 ts (bhA S0 ts) c q d (k + 1) := rfl
    rw [e0, ← tkc_app] at h
    have hfk := fb_k (S := S0) (ts := ts) (LB := LBo S0 ts) (L := q.2) (k := k) (by omega)
    have hst := FU_lt hts FU_fr q hqm k (by omega)
    have K : ∀ S' (o4 o5 o6 o7 : Option AV), Fr nrX nrA S S' → NrIs S' (tkc (capN S0 ts) N (thr1q S0 ts (bhA S0 ts) c k q)) → G sc mX0_rankTriples 2 [some (aR 6), some (aI (nI i)), some (aI (nI c)), some (aI (nI (k + 1))), o4, o5, o6, o7] [] (mk S') Q := fun S' o4 o5 o6 o7 f g1 => ih (k + 1) _ S' o4 o5 o6 o7 (by omega) (by omega) (hM.nr f) g1 (tkc_le _ _ _) (fun S2 f2 g2 => h S2 (f.tr f2) g2)
    by_cases hz : 0 < trN S0 ts (LBo S0 ts) q.2 k
    · rw [if_pos hz] at hfk
      obtain ⟨w, hw⟩ : ∃ w, typG S0 q.2 k ts 0 0 = some w := by
        unfold trN at hz
        rcases e : typG S0 q.2 k ts 0 0 with _ | w
        · rw [e] at hz; exact absurd hz (Nat.lt_irrefl 0)
        · exact ⟨w, rfl⟩
      have hrest : (nI c - nI (costN q.1) - nI (2 + k)).toInt = (c : Int) - costN q.1 - 2 - k := by
        have s1 : (nI c - nI (costN q.1)).toInt = (c : Int) - costN q.1 := by
          rw [sub_toInt (by rw [nIt (by omega), nIt (by omega)]; omega) (by rw [nIt (by omega), nIt (by omega)]; omega), nIt (by omega), nIt (by omega)]
        rw [sub_toInt (by rw [s1, nIt (by omega)]; omega) (by rw [s1, nIt (by omega)]; omega), s1, nIt (by omega)]
        omega
      rw [thr1_mt hts h0 hby hqm (by omega) hw] at K
      refine G_iload_n (pc := 2) dX0_rankTriples_2 rfl rfl ?_
      refine G_iconst (pc := 3) (v := nI 3) dX0_rankTriples_3 (by decide) ?_
      refine N_icmp_gt (pc := 4) (tgt := 156) dX0_rankTriples_4 (by decide) (by omega) (fun c4 => absurd c4 (by omega)) (fun c4 => ?_)
      refine G_aload_n (pc := 7) dX0_rankTriples_7 rfl rfl ?_
      refine S_getR (pc := 8) (b := 11) dX0_rankTriples_8 fX0_42 rfl rfl (by first | rfl | assumption) rfl rfl ?_
      refine G_iload_n (pc := 11) dX0_rankTriples_11 rfl rfl ?_
      refine N_bald (pc := 12) dX0_rankTriples_12 (by first | rfl | assumption) (by first | rfl | assumption) (by omega) ?_
      rw [hJi.2.2]
      refine G_iload_n (pc := 13) dX0_rankTriples_13 rfl rfl ?_
      refine G_ishr (pc := 14) dX0_rankTriples_14 ?_
      rw [shrN (by omega) (by omega)]
      refine G_iconst (pc := 15) (v := nI 1) dX0_rankTriples_15 (by decide) ?_
      refine G_iand (pc := 16) dX0_rankTriples_16 ?_
      rw [and1, hfk]
      refine N_if_ne (pc := 17) (tgt := 23) dX0_rankTriples_17 (by decide) (by omega) (fun c17 => ?_) (fun c17 => absurd c17 (by decide))
      refine G_iload_n (pc := 23) dX0_rankTriples_23 rfl rfl ?_
      refine G_aload_n (pc := 24) dX0_rankTriples_24 rfl rfl ?_
      refine S_getR (pc := 25) (b := 9) dX0_rankTriples_25 fX0_36 rfl rfl (by first | rfl | assumption) rfl rfl ?_
      refine G_iload_n (pc := 28) dX0_rankTriples_28 rfl rfl ?_
      refine N_iald (pc := 29) dX0_rankTriples_29 (by first | rfl | assumption) (by first | rfl | assumption) (by omega) ?_
      rw [hJi.1]
      refine S_callS (av := [_]) (pc := 30) (z := mX3_costOf) dX0_rankTriples_30 zX3_costOf lX0_rankTriples_150 rfl (sX3_costOf (by omega) ⟨_, rfl, ?_⟩)
      refine G_isub (pc := 33) dX0_rankTriples_33 ?_
      refine G_iconst (pc := 34) (v := nI 2) dX0_rankTriples_34 (by decide) ?_
      refine G_iload_n (pc := 35) dX0_rankTriples_35 rfl rfl ?_
      refine N_iadd (pc := 36) dX0_rankTriples_36 ?_
      refine G_isub (pc := 37) dX0_rankTriples_37 ?_
      refine G_istore (pc := 38) dX0_rankTriples_38 (by decide) rfl ?_
      refine G_aload_n (pc := 40) dX0_rankTriples_40 rfl rfl ?_
      refine S_getR (pc := 41) (b := 12) dX0_rankTriples_41 fX0_50 rfl rfl (by first | rfl | assumption) rfl rfl ?_
      refine G_aload_n (pc := 44) dX0_rankTriples_44 rfl rfl ?_
      refine S_getR (pc := 45) (b := 10) dX0_rankTriples_45 fX0_39 rfl rfl (by first | rfl | assumption) rfl rfl ?_
      refine G_iload_n (pc := 48) dX0_rankTriples_48 rfl rfl ?_
      refine N_iald (pc := 49) dX0_rankTriples_49 (by first | rfl | assumption) (by first | rfl | assumption) (by omega) ?_
      rw [hJi.2.1]
      refine G_iload_n (pc := 50) dX0_rankTriples_50 rfl rfl ?_
      refine G_aload_n (pc := 51) dX0_rankTriples_51 rfl rfl ?_
      refine S_getI (pc := 52) dX0_rankTriples_52 fX0_24 rfl (by first | rfl | assumption) rfl ?_
      rw [hH.2.2.1]
      refine N_imul (pc := 55) dX0_rankTriples_55 ?_
      refine N_iadd (pc := 56) dX0_rankTriples_56 ?_
      refine G_iload (pc := 57) dX0_rankTriples_57 rfl ?_
      refine S_callV (av := [_, _]) (pc := 59) (z := mX2_headOf) (ci := 1) dX0_rankTriples_59 zX2_headOf lX0_rankTriples_159 rfl (by first | rfl | assumption) rfl rfl (sX2_headOf hLa hst ⟨_, rfl, ?_⟩)
      rw [hrest]
      refine G_istore (pc := 62) dX0_rankTriples_62 (by decide) rfl ?_
      refine G_iconst (pc := 64) (v := nI 0) dX0_rankTriples_64 (by decide) ?_
      refine G_istore (pc := 65) dX0_rankTriples_65 (by decide) rfl ?_
      obtain ⟨c', d', i0, e1, e2, e3⟩ := mtI_ch (LB := LBo S0 ts) (x := q.2 + k * stpN ts) (c := (c : Int) - costN q.1 - 2 - k)
      rw [e2]
      rw [e3] at K
      refine rankT_in hts h0 hby hi hq (by omega) (by omega) hpc.2 hw d' d' i0 0 N S _ (Nat.le_refl _) (Nat.zero_le _) e1 hM hN hNl (fun S' o5 o6 o7 f g => ?_)
      refine N_iinc (pc := 150) dX0_rankTriples_150 rfl (by decide) rfl ?_
      refine G_goto (pc := 153) (tgt := 2) dX0_rankTriples_153 (by decide) ?_
      exact K S' _ _ _ _ f g
    · rw [if_neg hz] at hfk
      have e1 : thr1q S0 ts (bhA S0 ts) c k q = [] := by
        rcases e : typG S0 q.2 k ts 0 0 with _ | w
        · unfold thr1q; rw [e]
        · rw [thr1_mt hts h0 hby hqm (by omega) e, mtI_nil, List.map_nil]
          unfold trN at hz
          rw [e] at hz
          have hz : ¬ 0 < cntB (LBo S0 ts) (q.2 + k * stpN ts) := hz
          omega
      rw [e1, tkc_nil hNl] at K
      refine G_iload_n (pc := 2) dX0_rankTriples_2 rfl rfl ?_
      refine G_iconst (pc := 3) (v := nI 3) dX0_rankTriples_3 (by decide) ?_
      refine N_icmp_gt (pc := 4) (tgt := 156) dX0_rankTriples_4 (by decide) (by omega) (fun c4 => absurd c4 (by omega)) (fun c4 => ?_)
      refine G_aload_n (pc := 7) dX0_rankTriples_7 rfl rfl ?_
      refine S_getR (pc := 8) (b := 11) dX0_rankTriples_8 fX0_42 rfl rfl (by first | rfl | assumption) rfl rfl ?_
      refine G_iload_n (pc := 11) dX0_rankTriples_11 rfl rfl ?_
      refine N_bald (pc := 12) dX0_rankTriples_12 (by first | rfl | assumption) (by first | rfl | assumption) (by omega) ?_
      rw [hJi.2.2]
      refine G_iload_n (pc := 13) dX0_rankTriples_13 rfl rfl ?_
      refine G_ishr (pc := 14) dX0_rankTriples_14 ?_
      rw [shrN (by omega) (by omega)]
      refine G_iconst (pc := 15) (v := nI 1) dX0_rankTriples_15 (by decide) ?_
      refine G_iand (pc := 16) dX0_rankTriples_16 ?_
      rw [and1, hfk]
      refine N_if_ne (pc := 17) (tgt := 23) dX0_rankTriples_17 (by decide) (by omega) (fun c17 => absurd c17 (by decide)) (fun c17 => ?_)
      refine G_goto (pc := 20) (tgt := 150) dX0_rankTriples_20 (by decide) ?_
      refine N_iinc (pc := 150) dX0_rankTriples_150 rfl (by decide) rfl ?_
      refine G_goto (pc := 153) (tgt := 2) dX0_rankTriples_153 (by decide) ?_
      exact K S _ _ _ _ Fr.rf hN
set_option maxRecDepth 100000 in
set_option maxHeartbeats 4000000 in
theorem sX0_rankTriples {S0 : ST} {ts : List Nat} {c i : Nat} {q : Nat × Nat} {N : List (List Nat)} (hts : TsOk S0 ts) (h0 : ts ≠ []) (hby : EnBy S0 ts) (hc : c ≤ 15) (hi : i < (FJo S0 ts).length) (hq : (FJo S0 ts).getD i (0, 0) = q) (hqm : q ∈ frA S0 ts) (hM : FtM S0 S ts) (hN : NrIs S N) (hNl : N.length ≤ capN S0 ts) (h : ∀ S', Fr nrX nrA S S' → NrIs S' (tkc (capN S0 ts) N (thrMq S0 ts (bhA S0 ts) c q)) → Q none (mk S')) : CT sc mX0_rankTriples [aR 6, aI (nI i), aI (nI c)] (mk S) Q := by
  refine S_of (by decide) rfl ?_
  show G sc mX0_rankTriples 0 [some (aR 6), some (aI (nI i)), some (aI (nI c)), none, none, none, none, none] [] (mk S) Q
  refine G_iconst (pc := 0) (v := nI 1) dX0_rankTriples_0 (by decide) ?_
  refine G_istore_n (pc := 1) dX0_rankTriples_1 rfl (by decide) rfl ?_
  exact rankT_lp hts h0 hby hc hi hq hqm 3 1 N S _ _ _ _ (by omega) (by omega) hM hN hNl h
end C16
