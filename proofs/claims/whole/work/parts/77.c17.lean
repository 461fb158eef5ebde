/-! the class: Fit.rank -/
theorem dropQ {F : List (Nat × Nat)} {f : Nat} {q : Nat × Nat} {r : List (Nat × Nat)} (h : F.drop f = q :: r) : f < F.length ∧ F.getD f (0, 0) = q ∧ F.drop (f + 1) = r := by
  have hf : f < F.length := by
    rcases Nat.lt_or_ge f F.length with z | z
    · exact z
    · rw [List.drop_eq_nil_of_le z] at h; cases h
  rw [dropP hf] at h
  injection h with h1 h2
  exact ⟨hf, h1, h2⟩
theorem FJ_mem {S : ST} {ts : List Nat} {q : Nat × Nat} (h : q ∈ FJo S ts) : q ∈ frA S ts := (List.mem_filter.mp (List.mem_filter.mp h).1).1
theorem FJ_two {S : ST} {ts : List Nat} {c : Nat} (hts : TsOk S ts) (h0 : ts ≠ []) (hby : EnBy S ts) : twoF S ts (frA S ts) (bhA S ts) c (frA S ts).length 0 = (FJo S ts).flatMap (two1q S ts (bhA S ts) c) := by
  rw [twoF_l _ 0 (by omega), List.drop_zero]
  unfold FJo fjL FFo ffL
  rw [flat_filter, flat_filter]
  · intro q hq hn
    obtain ⟨u, e, hu⟩ := FU_fr q hq
    unfold two1q
    rw [left_fu hts h0 e hu (by simpa using hn)]
    rfl
  · intro q hq hn
    have hq := (List.mem_filter.mp hq).1
    have hz := fb_no (show fbG S ts (LBo S ts) q.2 3 = 0 by simpa using hn)
    rw [two1_mt hts h0 hby hq, mtI_nil hz.1]
    rfl
theorem FJ_thr {S : ST} {ts : List Nat} {c : Nat} (hts : TsOk S ts) (h0 : ts ≠ []) (hby : EnBy S ts) : thrF S ts (frA S ts) (bhA S ts) c (frA S ts).length 0 = (FJo S ts).flatMap (thrMq S ts (bhA S ts) c) := by
  rw [thrF_l _ 0 (by omega), List.drop_zero]
  unfold FJo fjL FFo ffL
  rw [flat_filter, flat_filter]
  · intro q hq hn
    obtain ⟨u, e, hu⟩ := FU_fr q hq
    have z : ∀ m, thr1q S ts (bhA S ts) c m q = [] := fun m => by
      unfold thr1q
      rw [left_fu hts h0 e hu (by simpa using hn)]
      rcases typG S q.2 m ts 0 0 with _ | w <;> rfl
    unfold thrMq
    rw [z, z, z]
    rfl
  · intro q hq hn
    have hq := (List.mem_filter.mp hq).1
    have hz := fb_no (show fbG S ts (LBo S ts) q.2 3 = 0 by simpa using hn)
    have z : ∀ m, 1 ≤ m ∧ m ≤ 3 → thr1q S ts (bhA S ts) c m q = [] := fun m hm => by
      rcases e : typG S q.2 m ts 0 0 with _ | w
      · unfold thr1q; rw [e]
      · rw [thr1_mt hts h0 hby hq hm.2 e, mtI_nil]
        · rfl
        · have := hz.2 m hm
          unfold trN at this
          rw [e] at this
          exact this
    unfold thrMq
    rw [z 1 (by omega), z 2 (by omega), z 3 (by omega)]
    rfl
section C17
variable {sc : SC} {S : ST} {Q : Option AV → HM → Prop}
set_option maxRecDepth 100000 in
set_option maxHeartbeats 4000000 in
theorem rk_p {S0 : ST} {ts : List Nat} {c : Nat} (hts : TsOk S0 ts) (h0 : ts ≠ []) (hby : EnBy S0 ts) (hc : c ≤ 15) (hJl : (FJo S0 ts).length ≤ 4803) :
    ∀ (r : List (Nat × Nat)) (i : Nat) (N : List (List Nat)) (S : ST), i ≤ (FJo S0 ts).length → (FJo S0 ts).drop i = r → FtM S0 S ts → NrIs S N → N.length ≤ capN S0 ts → (∀ (S' : ST) (o2 : Option AV), Fr nrX nrA S S' → NrIs S' (tkc (capN S0 ts) N (r.flatMap (two1q S0 ts (bhA S0 ts) c))) → G sc mX0_rank 49 [some (aR 6), some (aI (nI c)), o2] [] (mk S') Q) →
      G sc mX0_rank 22 [some (aR 6), some (aI (nI c)), some (aI (nI i))] [] (mk S) Q := by
  have b1 := fitN_le (n := 1) hts h0 hby
  have b2 := fitN_le (n := 2) hts h0 hby
  have b3 := fitN_le (n := 3) hts h0 hby
  intro r
  induction r with
  | nil =>
    intro i N S hi hd hM hN hNl h
    have hd := List.drop_eq_nil_iff.mp hd
    rw [List.flatMap_nil, tkc_nil hNl] at h
    refine G_iload_n (pc := 22) dX0_rank_22 rfl rfl ?_
    refine G_aload_n (pc := 23) dX0_rank_23 rfl rfl ?_
    refine S_getI (pc := 24) dX0_rank_24 fX0_46 rfl (by first | rfl | assumption) rfl ?_
    rw [hM.2.2.2.1.1]
    refine N_icmp_ge (pc := 27) (tgt := 49) dX0_rank_27 (by decide) (by omega) (fun c27 => ?_) (fun c27 => absurd c27 (by omega))
    exact h S _ Fr.rf hN
  | cons q r ih =>
    intro i N S hi hd hM hN hNl h
    obtain ⟨d1, d2, d3⟩ := dropQ hd
    obtain ⟨m1, m2, m3⟩ := hM.cnt hts h0 hby
    have hN64 := hN.2.1
    rw [List.flatMap_cons] at h
    refine G_iload_n (pc := 22) dX0_rank_22 rfl rfl ?_
    refine G_aload_n (pc := 23) dX0_rank_23 rfl rfl ?_
    refine S_getI (pc := 24) dX0_rank_24 fX0_46 rfl (by first | rfl | assumption) rfl ?_
    rw [hM.2.2.2.1.1]
    refine N_icmp_ge (pc := 27) (tgt := 49) dX0_rank_27 (by decide) (by omega) (fun c27 => absurd c27 (by omega)) (fun c27 => ?_)
    refine G_aload_n (pc := 30) dX0_rank_30 rfl rfl ?_
    refine S_callV (av := []) (pc := 31) (z := mX0_isRanked) (ci := 0) dX0_rank_31 zX0_isRanked lX0_rank_134 rfl (by first | rfl | assumption) rfl rfl (sX0_isRanked m1 m2 m3 (by omega) hN.1 hN64 ⟨_, rfl, ?_⟩)
    refine B_if_ne (pc := 34) (tgt := 49) dX0_rank_34 (by decide) (fun c34 => ?_) (fun c34 => ?_)
    · skip
      rw [decide_eq_true_eq] at c34
      rw [tkc_full (by unfold capN at hNl ⊢; omega)] at h
      exact h S _ Fr.rf hN
    · skip
      refine G_aload_n (pc := 37) dX0_rank_37 rfl rfl ?_
      refine G_iload_n (pc := 38) dX0_rank_38 rfl rfl ?_
      refine G_iload_n (pc := 39) dX0_rank_39 rfl rfl ?_
      refine S_callV (av := [_, _]) (pc := 40) (z := mX0_rankPairs) (ci := 0) dX0_rank_40 zX0_rankPairs lX0_rank_141 rfl (by first | rfl | assumption) rfl rfl (sX0_rankPairs hts h0 hby hc d1 d2 (FJ_mem (by rw [← d2]; exact getD_mem2 d1)) hM hN hNl (fun S1 w1 w2 => ⟨_, rfl, ?_⟩))
      refine N_iinc (pc := 43) dX0_rank_43 rfl (by decide) rfl ?_
      refine G_goto (pc := 46) (tgt := 22) dX0_rank_46 (by decide) ?_
      exact ih (i + 1) _ S1 (by omega) d3 (hM.nr w1) w2 (tkc_le _ _ _) (fun S' o2 f g => h S' o2 (w1.tr f) (by rw [tkc_app] at g; exact g))
set_option maxRecDepth 100000 in
set_option maxHeartbeats 4000000 in
theorem rk_t {S0 : ST} {ts : List Nat} {c : Nat} (hts : TsOk S0 ts) (h0 : ts ≠ []) (hby : EnBy S0 ts) (hc : c ≤ 15) (hJl : (FJo S0 ts).length ≤ 4803) :
    ∀ (r : List (Nat × Nat)) (i : Nat) (N : List (List Nat)) (S : ST), i ≤ (FJo S0 ts).length → (FJo S0 ts).drop i = r → FtM S0 S ts → NrIs S N → N.length ≤ capN S0 ts → (∀ (S' : ST) (o2 : Option AV), Fr nrX nrA S S' → NrIs S' (tkc (capN S0 ts) N (r.flatMap (thrMq S0 ts (bhA S0 ts) c))) → G sc mX0_rank 78 [some (aR 6), some (aI (nI c)), o2] [] (mk S') Q) →
      G sc mX0_rank 51 [some (aR 6), some (aI (nI c)), some (aI (nI i))] [] (mk S) Q := by
  have b1 := fitN_le (n := 1) hts h0 hby
  have b2 := fitN_le (n := 2) hts h0 hby
  have b3 := fitN_le (n := 3) hts h0 hby
  intro r
  induction r with
  | nil =>
    intro i N S hi hd hM hN hNl h
    have hd := List.drop_eq_nil_iff.mp hd
    rw [List.flatMap_nil, tkc_nil hNl] at h
    refine G_iload_n (pc := 51) dX0_rank_51 rfl rfl ?_
    refine G_aload_n (pc := 52) dX0_rank_52 rfl rfl ?_
    refine S_getI (pc := 53) dX0_rank_53 fX0_46 rfl (by first | rfl | assumption) rfl ?_
    rw [hM.2.2.2.1.1]
    refine N_icmp_ge (pc := 56) (tgt := 78) dX0_rank_56 (by decide) (by omega) (fun c56 => ?_) (fun c56 => absurd c56 (by omega))
    exact h S _ Fr.rf hN
  | cons q r ih =>
    intro i N S hi hd hM hN hNl h
    obtain ⟨d1, d2, d3⟩ := dropQ hd
    obtain ⟨m1, m2, m3⟩ := hM.cnt hts h0 hby
    have hN64 := hN.2.1
    rw [List.flatMap_cons] at h
    refine G_iload_n (pc := 51) dX0_rank_51 rfl rfl ?_
    refine G_aload_n (pc := 52) dX0_rank_52 rfl rfl ?_
    refine S_getI (pc := 53) dX0_rank_53 fX0_46 rfl (by first | rfl | assumption) rfl ?_
    rw [hM.2.2.2.1.1]
    refine N_icmp_ge (pc := 56) (tgt := 78) dX0_rank_56 (by decide) (by omega) (fun c56 => absurd c56 (by omega)) (fun c56 => ?_)
    refine G_aload_n (pc := 59) dX0_rank_59 rfl rfl ?_
    refine S_callV (av := []) (pc := 60) (z := mX0_isRanked) (ci := 0) dX0_rank_60 zX0_isRanked lX0_rank_134 rfl (by first | rfl | assumption) rfl rfl (sX0_isRanked m1 m2 m3 (by omega) hN.1 hN64 ⟨_, rfl, ?_⟩)
    refine B_if_ne (pc := 63) (tgt := 78) dX0_rank_63 (by decide) (fun c63 => ?_) (fun c63 => ?_)
    · skip
      rw [decide_eq_true_eq] at c63
      rw [tkc_full (by unfold capN at hNl ⊢; omega)] at h
      exact h S _ Fr.rf hN
    · skip
      refine G_aload_n (pc := 66) dX0_rank_66 rfl rfl ?_
      refine G_iload_n (pc := 67) dX0_rank_67 rfl rfl ?_
      refine G_iload_n (pc := 68) dX0_rank_68 rfl rfl ?_
      refine S_callV (av := [_, _]) (pc := 69) (z := mX0_rankTriples) (ci := 0) dX0_rank_69 zX0_rankTriples lX0_rank_144 rfl (by first | rfl | assumption) rfl rfl (sX0_rankTriples hts h0 hby hc d1 d2 (FJ_mem (by rw [← d2]; exact getD_mem2 d1)) hM hN hNl (fun S1 w1 w2 => ⟨_, rfl, ?_⟩))
      refine N_iinc (pc := 72) dX0_rank_72 rfl (by decide) rfl ?_
      refine G_goto (pc := 75) (tgt := 51) dX0_rank_75 (by decide) ?_
      exact ih (i + 1) _ S1 (by omega) d3 (hM.nr w1) w2 (tkc_le _ _ _) (fun S' o2 f g => h S' o2 (w1.tr f) (by rw [tkc_app] at g; exact g))
set_option maxRecDepth 100000 in
set_option maxHeartbeats 4000000 in
theorem rk_lp {S0 : ST} {ts : List Nat} (hts : TsOk S0 ts) (h0 : ts ≠ []) (hby : EnBy S0 ts) (hJl : (FJo S0 ts).length ≤ 4803) :
    ∀ (d c : Nat) (N : List (List Nat)) (S : ST) (o2 : Option AV), c + d = 16 → FtM S0 S ts → NrIs S N → N.length ≤ capN S0 ts → (∀ S', Fr nrX nrA S S' → NrIs S' (tkc (capN S0 ts) N (cstF S0 ts (frA S0 ts) (bhA S0 ts) d c)) → Q none (mk S')) →
      G sc mX0_rank 2 [some (aR 6), some (aI (nI c)), o2] [] (mk S) Q := by
  have b1 := fitN_le (n := 1) hts h0 hby
  have b2 := fitN_le (n := 2) hts h0 hby
  have b3 := fitN_le (n := 3) hts h0 hby
  intro d
  induction d with
  | zero =>
    intro c N S o2 hd hM hN hNl h
    rw [show cstF S0 ts (frA S0 ts) (bhA S0 ts) 0 c = [] from rfl, tkc_nil hNl] at h
    refine G_iload_n (pc := 2) dX0_rank_2 rfl rfl ?_
    refine G_bipush (pc := 3) (v := nI 15) dX0_rank_3 (by decide) ?_
    refine N_icmp_gt (pc := 5) (tgt := 84) dX0_rank_5 (by decide) (by omega) (fun c5 => ?_) (fun c5 => absurd c5 (by omega))
    refine S_vret (pc := 84) dX0_rank_84 rfl ?_
    exact h S Fr.rf hN
  | succ d ih =>
    intro c N S o2 hd hM hN hNl h
    obtain ⟨m1, m2, m3⟩ := hM.cnt hts h0 hby
    have hN64 := hN.2.1
    have e0 : cstF S0 ts (frA S0 ts) (bhA S0 ts) (d + 1) c = (oneF S0 ts (frA S0 ts) c (frA S0 ts).length 0 ++ (twoF S0 ts (frA S0 ts) (bhA S0 ts) c (frA S0 ts).length 0 ++ thrF S0 ts (frA S0 ts) (bhA S0 ts) c (frA S0 ts).length 0)) ++ cstF S0 ts (frA S0 ts) (bhA S0 ts) d (c + 1) := rfl
    rw [e0, FJ_two hts h0 hby, FJ_thr hts h0 hby] at h
    refine G_iload_n (pc := 2) dX0_rank_2 rfl rfl ?_
    refine G_bipush (pc := 3) (v := nI 15) dX0_rank_3 (by decide) ?_
    refine N_icmp_gt (pc := 5) (tgt := 84) dX0_rank_5 (by decide) (by omega) (fun c5 => absurd c5 (by omega)) (fun c5 => ?_)
    refine G_aload_n (pc := 8) dX0_rank_8 rfl rfl ?_
    refine S_callV (av := []) (pc := 9) (z := mX0_isRanked) (ci := 0) dX0_rank_9 zX0_isRanked lX0_rank_134 rfl (by first | rfl | assumption) rfl rfl (sX0_isRanked m1 m2 m3 (by omega) hN.1 hN64 ⟨_, rfl, ?_⟩)
    refine B_if_ne (pc := 12) (tgt := 84) dX0_rank_12 (by decide) (fun c12 => ?_) (fun c12 => ?_)
    · skip
      rw [decide_eq_true_eq] at c12
      rw [tkc_full (by unfold capN at hNl ⊢; omega)] at h
      refine S_vret (pc := 84) dX0_rank_84 rfl ?_
      exact h S Fr.rf hN
    · skip
      refine G_aload_n (pc := 15) dX0_rank_15 rfl rfl ?_
      refine G_iload_n (pc := 16) dX0_rank_16 rfl rfl ?_
      refine S_callV (av := [_]) (pc := 17) (z := mX0_rankWholes) (ci := 0) dX0_rank_17 zX0_rankWholes lX0_rank_138 rfl (by first | rfl | assumption) rfl rfl (sX0_rankWholes hts h0 hby (by omega) hM hN hNl (fun S1 w1 w2 => ⟨_, rfl, ?_⟩))
      refine G_iconst (pc := 20) (v := nI 0) dX0_rank_20 (by decide) ?_
      refine G_istore_n (pc := 21) dX0_rank_21 rfl (by decide) rfl ?_
      refine rk_p hts h0 hby (by omega) hJl (FJo S0 ts) 0 _ S1 (by omega) (List.drop_zero) (hM.nr w1) w2 (tkc_le _ _ _) (fun S2 o2 x1 x2 => ?_)
      refine G_iconst (pc := 49) (v := nI 0) dX0_rank_49 (by decide) ?_
      refine G_istore_n (pc := 50) dX0_rank_50 rfl (by decide) rfl ?_
      refine rk_t hts h0 hby (by omega) hJl (FJo S0 ts) 0 _ S2 (by omega) (List.drop_zero) (hM.nr (w1.tr x1)) x2 (tkc_le _ _ _) (fun S3 o2 y1 y2 => ?_)
      refine N_iinc (pc := 78) dX0_rank_78 rfl (by decide) rfl ?_
      refine G_goto (pc := 81) (tgt := 2) dX0_rank_81 (by decide) ?_
      refine ih (c + 1) _ S3 _ (by omega) (hM.nr (w1.tr (x1.tr y1))) y2 (tkc_le _ _ _) (fun S' f g => h S' ((w1.tr (x1.tr y1)).tr f) ?_)
      rw [tkc_app, tkc_app, tkc_app] at g
      rw [List.append_assoc, List.append_assoc]
      exact g
/-- Fit, measured and ranked -/
def FtR (S0 S : ST) (ts : List Nat) : Prop := FtM S0 S ts ∧ NrIs S (neA S0 ts)
set_option maxRecDepth 100000 in
set_option maxHeartbeats 4000000 in
theorem sX0_rank {S0 : ST} {ts : List Nat} (hts : TsOk S0 ts) (h0 : ts ≠ []) (hby : EnBy S0 ts) (hM : FtM S0 S ts) (hn : S.1 6 16 = nI 0) (h : ∀ S', Fr nrX nrA S S' → FtR S0 S' ts → Q none (mk S')) : CT sc mX0_rank [aR 6] (mk S) Q := by
  refine S_of (by decide) rfl ?_
  show G sc mX0_rank 0 [some (aR 6), none, none] [] (mk S) Q
  have l1 := @ffL_len S0 ts (frA S0 ts)
  have l2 := @frA_len S0 ts
  have l3 : (FJo S0 ts).length ≤ (FFo S0 ts).length := List.length_filter_le _ _
  have l3 : (FJo S0 ts).length ≤ (ffL S0 ts (frA S0 ts)).length := l3
  have ha := cst_all hts h0 hby
  have e : tkc (capN S0 ts) [] (cstF S0 ts (frA S0 ts) (bhA S0 ts) 13 3) = neA S0 ts := by
    unfold tkc neA tk capN
    rw [List.nil_append, show fitN S0 ts 1 + fitN S0 ts 2 + fitN S0 ts 3 = (cstF S0 ts (frA S0 ts) (bhA S0 ts) 13 3).length by omega]
    rw [← List.take_take, List.take_length]
  refine G_iconst (pc := 0) (v := nI 3) dX0_rank_0 (by decide) ?_
  refine G_istore_n (pc := 1) dX0_rank_1 rfl (by decide) rfl ?_
  refine rk_lp hts h0 hby (by omega) 13 3 [] S _ (by omega) hM ⟨hn, by simp, fun i hi => by simp at hi⟩ (by simp) (fun S' f g => h S' f ⟨hM.nr f, ?_⟩)
  rw [e] at g
  exact g
theorem neA_tot {S : ST} {ts : List Nat} (hts : TsOk S ts) (h0 : ts ≠ []) (hby : EnBy S ts) : neA S ts = [] ↔ fitN S ts 1 + fitN S ts 2 + fitN S ts 3 = 0 := by
  have ha := cst_all hts h0 hby
  unfold neA tk
  rw [List.nil_append, List.take_eq_nil_iff, ← List.length_eq_zero_iff]
  omega
end C17
