/-! the class: Fit.measure -/
theorem drop_cx {C : List Nat} {j x : Nat} {l : List Nat} (h : C.drop j = x :: l) : j < C.length ∧ C.getD j 0 = x ∧ C.drop (j + 1) = l := by
  have hj : j < C.length := by
    rcases Nat.lt_or_ge j C.length with q | q
    · exact q
    · rw [List.drop_eq_nil_of_le q] at h; cases h
  rw [List.drop_eq_getElem_cons hj] at h
  injection h with h1 h2
  exact ⟨hj, by rw [List.getD_eq_getElem?_getD, List.getElem?_eq_getElem hj]; exact h1, h2⟩
theorem drop_nx {C : List Nat} {j : Nat} (h : C.drop j = []) : C.length ≤ j := List.drop_eq_nil_iff.mp h
theorem cmF_len {S : ST} {ts : List Nat} : ∀ d p, (cmF S ts d p).length ≤ d
  | 0, _ => Nat.le_refl _
  | d + 1, p => by
    have := cmF_len (S := S) (ts := ts) d (p + 1)
    unfold cmF
    split
    · simp; omega
    · omega
theorem com_no {S : ST} {ts : List Nat} {p : Nat} (h : ¬ comB S ts p = true) : ∃ t ∈ ts, pl (lnB S t) (szN S t) p = none := by
  unfold comB at h
  rw [List.all_eq_true] at h
  by_cases q : ∃ t ∈ ts, pl (lnB S t) (szN S t) p = none
  · exact q
  · refine absurd (fun t ht => ?_) h
    rcases e : pl (lnB S t) (szN S t) p with _ | x
    · exact absurd ⟨t, ht, e⟩ q
    · rfl
theorem pcF_skip {S : ST} {ts : List Nat} {bh : Bool} : ∀ d c, (∀ c', c ≤ c' → c' < c + d → longF S ts c' bh = none) → pcF S ts bh (c + d) = pcF S ts bh c
  | 0, _, _ => rfl
  | d + 1, c, h => by
    show oApp (pcF S ts bh (c + d)) (c + d) (longF S ts (c + d) bh) = _
    rw [h (c + d) (by omega) (by omega)]
    exact pcF_skip d c (fun c' g1 g2 => h c' g1 (by omega))
theorem skip_to {S : ST} {ts : List Nat} {bh : Bool} {p q : Nat} (hp : p < 40) (hq : q < 40) (h : ¬ comB S ts q = true) : pcF S ts bh (120 * p + 3 * (q + 1)) = pcF S ts bh (120 * p + 3 * q) := by
  obtain ⟨t, ht, e⟩ := com_no h
  rw [show 120 * p + 3 * (q + 1) = 120 * p + 3 * q + 3 by omega]
  refine pcF_skip 3 _ (fun c' g1 g2 => ?_)
  have ec : c' = 120 * p + 3 * q + (c' - (120 * p + 3 * q)) := by omega
  rw [ec]
  refine cutL_none hp hq (by omega) (fun hb => ?_)
  obtain ⟨x, y, -, h2, -⟩ := hb t ht
  rw [e] at h2
  cases h2
theorem skip_fr {S : ST} {ts : List Nat} {bh : Bool} {p : Nat} (hp : p < 40) (h : ¬ comB S ts p = true) : pcF S ts bh (120 * (p + 1)) = pcF S ts bh (120 * p) := by
  obtain ⟨t, ht, e⟩ := com_no h
  rw [show 120 * (p + 1) = 120 * p + 120 by omega]
  refine pcF_skip 120 _ (fun c' g1 g2 => longF_none (fun hb => ?_))
  obtain ⟨o, h1, -⟩ := hb t ht
  rw [pcL_n1 (by omega) (by rw [show c' / 120 = p by omega]; exact e)] at h1
  cases h1
/-- how far pieces go -/
def FU (S : ST) (ts : List Nat) (F : List (Nat × Nat)) : Prop := ∀ q ∈ F, ∃ u : Nat → Nat, q.2 = pkd u ts ∧ ∀ t ∈ ts, 1 ≤ u t ∧ u t ≤ esN S t
theorem FU.app {S : ST} {ts : List Nat} {F : List (Nat × Nat)} {p L : Nat} (h : FU S ts F) (u : Nat → Nat) (e : L = pkd u ts) (hu : ∀ t ∈ ts, 1 ≤ u t ∧ u t ≤ esN S t) : FU S ts (F ++ [(p, L)]) := fun q hq => by
  rcases List.mem_append.mp hq with z | z
  · exact h q z
  · rw [List.mem_singleton] at z
    subst z
    exact ⟨u, e, hu⟩
theorem FU_pcF {S : ST} {ts : List Nat} {bh : Bool} : ∀ c, c ≤ 4800 → FU S ts (pcF S ts bh c)
  | 0, _ => fun q hq => by cases hq
  | c + 1, hc => by
    have ih := FU_pcF (S := S) (ts := ts) (bh := bh) c (by omega)
    show FU S ts (oApp (pcF S ts bh c) c (longF S ts c bh))
    by_cases h : ∀ t ∈ ts, okT S c bh t
    · rw [longF_some h]
      refine ih.app (wlN S c) rfl (fun t ht => ?_)
      have e : c = 120 * (c / 120) + 3 * (c / 3 % 40) + c % 3 := by omega
      have hb := h t ht
      rw [e] at hb
      have hb := (cut_ok (by omega) (by omega) (by omega)).mp hb
      have hw := cut_wl (tn := c % 3) (by omega) (by omega) (by omega) (by split <;> omega) hb
      rw [← e] at hw
      omega
    · rw [longF_none h]
      exact ih
theorem FU_frT {S : ST} {ts : List Nat} : ∀ d m F, 1 ≤ m → FU S ts F → FU S ts (frT S ts d m F)
  | 0, _, _, _, h => h
  | d + 1, m, F, hm, h => by
    refine FU_frT d (m + 1) _ (by omega) ?_
    rcases e : tyF S ts m with _ | p
    · exact h
    · rw [tyF_eq] at e
      exact h.app (fun _ => m) (by rw [onG_pk]; simp) (fun t ht => ⟨hm, typG_ft ts 0 0 p e t ht⟩)
theorem FU_bhT {S : ST} {ts : List Nat} : ∀ d m F, 1 ≤ m → FU S ts F → FU S ts (bhT S ts d m F)
  | 0, _, _, _, h => h
  | d + 1, m, F, hm, h => by
    refine FU_bhT d (m + 1) _ (by omega) ?_
    rcases e : tyB S ts m with _ | p
    · exact h
    · have hf : ftG S m ts true = true := by
        unfold tyB at e
        split at e
        · assumption
        · cases e
      exact h.app (fun _ => m) (by rw [onG_pk]; simp) (fun t ht => ⟨hm, ((ftG_iff ts true).mp hf).2 t ht⟩)
theorem FU_fr {S : ST} {ts : List Nat} : FU S ts (frA S ts) := FU_frT 3 1 _ (by omega) (FU_pcF 4800 (by omega))
theorem FU_bh {S : ST} {ts : List Nat} : FU S ts (bhA S ts) := FU_bhT 3 1 _ (by omega) (FU_pcF 4800 (by omega))
theorem pkd_k {u : Nat → Nat} {ts : List Nat} {k : Nat} : pkd u ts + k * stpN ts = pkd (fun t => u t + k) ts := by
  unfold stpN
  rw [pkd_mul, pkd_add]
theorem FU_lt {S : ST} {ts : List Nat} {F : List (Nat × Nat)} (hts : TsOk S ts) (h : FU S ts F) : ∀ q ∈ F, ∀ k, k ≤ 3 → q.2 + k * stpN ts < 65536 := fun q hq k hk => by
  obtain ⟨u, e, hu⟩ := h q hq
  rw [e, pkd_k]
  exact pkd_lt4 hts.1 (fun t ht => by have := (hu t ht).2; have := (hts.2 t ht).2.2.2.2.2; omega)
theorem frA_len {S : ST} {ts : List Nat} : (frA S ts).length ≤ 4803 := by
  have h1 := frT_len (S := S) (ts := ts) 3 1 (pcF S ts false 4800)
  have h2 := pcF_len S ts false 4800
  show (frT S ts 3 1 _).length ≤ _
  omega
abbrev mtX (a j : Nat) : Prop := (a = 6 ∧ (j = 5 ∨ j = 9 ∨ j = 12 ∨ j = 13 ∨ j = 14)) ∨ a = 12
abbrev mtA (a : Nat) : Prop := 8 ≤ a ∧ a ≤ 20
theorem mt_ac {S S' : ST} (h : Fr acX acA S S') : Fr mtX mtA S S' := h.mono (fun a j q => by rcases q with ⟨q, z⟩ | ⟨q, z⟩; left; exact ⟨q, by omega⟩; right; omega) (fun a q => by rcases q with q | q <;> (constructor <;> omega))
theorem mt_cm {S S' : ST} (h : Fr cmX cmA S S') : Fr mtX mtA S S' := h.mono (fun a j q => Or.inl ⟨q.1, by omega⟩) (fun a q => by constructor <;> omega)
theorem mt_j {S S' : ST} (h : Fr jX jA S S') : Fr mtX mtA S S' := h.mono (fun a j q => Or.inl ⟨q.1, by omega⟩) (fun a q => by constructor <;> omega)
theorem ft_mt {S S' : ST} (h : Fr mtX mtA S S') : Fr ftX ftA S S' := h.mono (fun a j q => by rcases q with ⟨q, z⟩ | q; left; exact ⟨q, by omega⟩; right; omega) (fun a q => by constructor <;> omega)
/-- Fit, measured -/
abbrev LBo (S : ST) (ts : List Nat) : List (Nat × Nat) := lbL S ts (bhA S ts)
abbrev FFo (S : ST) (ts : List Nat) : List (Nat × Nat) := ffL S ts (frA S ts)
abbrev FJo (S : ST) (ts : List Nat) : List (Nat × Nat) := fjL S ts (LBo S ts) (FFo S ts)
def FtM (S0 S : ST) (ts : List Nat) : Prop := FtH S0 S ts ∧ WhIs S (whL S0 ts (frA S0 ts)) ∧ (∃ g, LaIs S (LBo S0 ts) g) ∧ (S.1 6 9 = nI (FJo S0 ts).length ∧ JrIs S0 S ts (LBo S0 ts) (FJo S0 ts)) ∧ S.1 6 13 = nI (prS (LBo S0 ts) (FFo S0 ts)) ∧ S.1 6 14 = nI (tpS S0 ts (LBo S0 ts) (FFo S0 ts))
section C12
variable {sc : SC} {S : ST} {Q : Option AV → HM → Prop}
set_option maxRecDepth 100000 in
set_option maxHeartbeats 4000000 in
theorem meas_in {S0 : ST} {ts C : List Nat} {p i : Nat} (hts : TsOk S0 ts) (h0 : ts ≠ []) (hp : p < 40) (hi : i < C.length) (hCi : C.getD i 0 = p) (hCl : C.length ≤ 40) :
    ∀ (d q j : Nat) (S : ST) (gn : Nat), q + d = 40 → j ≤ C.length → C.drop j = cmF S0 ts d q → FtH S0 S ts → CmIs S C → FtP S0 S ts (pcF S0 ts false (120 * p + 3 * q)) (pcF S0 ts true (120 * p + 3 * q)) gn → gn ≤ 40 * p + q →
      (∀ (S' : ST) (gn' : Nat) (o2 : Option AV), Fr acX acA S S' → FtP S0 S' ts (pcF S0 ts false (120 * (p + 1))) (pcF S0 ts true (120 * (p + 1))) gn' → gn' ≤ 40 * (p + 1) → G sc mX0_measure 46 [some (aR 6), some (aI (nI i)), o2] [] (mk S') Q) →
      G sc mX0_measure 16 [some (aR 6), some (aI (nI i)), some (aI (nI j))] [] (mk S) Q := by
  intro d
  induction d with
  | zero =>
    intro q j S gn hq hj hd hH hC hP hgn h
    have hd := drop_nx hd
    have e : q = 40 := by omega
    subst e
    refine G_iload_n (pc := 16) dX0_measure_16 rfl rfl ?_
    refine G_aload_n (pc := 17) dX0_measure_17 rfl rfl ?_
    refine S_getI (pc := 18) dX0_measure_18 fX0_31 rfl (by first | rfl | assumption) rfl ?_
    rw [hC.1]
    refine N_icmp_ge (pc := 21) (tgt := 46) dX0_measure_21 (by decide) (by omega) (fun c21 => ?_) (fun c21 => absurd c21 (by omega))
    exact h S gn _ Fr.rf (by rw [show 120 * (p + 1) = 120 * p + 3 * 40 by omega]; exact hP) (by omega)
  | succ d ih =>
    intro q j S gn hq hj hd hH hC hP hgn h
    have e0 : cmF S0 ts (d + 1) q = if comB S0 ts q = true then q :: cmF S0 ts d (q + 1) else cmF S0 ts d (q + 1) := rfl
    rw [e0] at hd
    by_cases hc : comB S0 ts q = true
    · rw [if_pos hc] at hd
      obtain ⟨d1, d2, d3⟩ := drop_cx hd
      refine G_iload_n (pc := 16) dX0_measure_16 rfl rfl ?_
      refine G_aload_n (pc := 17) dX0_measure_17 rfl rfl ?_
      refine S_getI (pc := 18) dX0_measure_18 fX0_31 rfl (by first | rfl | assumption) rfl ?_
      rw [hC.1]
      refine N_icmp_ge (pc := 21) (tgt := 46) dX0_measure_21 (by decide) (by omega) (fun c21 => absurd c21 (by omega)) (fun c21 => ?_)
      refine G_aload_n (pc := 24) dX0_measure_24 rfl rfl ?_
      refine G_aload_n (pc := 25) dX0_measure_25 rfl rfl ?_
      refine S_getR (pc := 26) (b := 8) dX0_measure_26 fX0_27 rfl rfl (by first | rfl | assumption) rfl rfl ?_
      refine G_iload_n (pc := 29) dX0_measure_29 rfl rfl ?_
      refine N_iald (pc := 30) dX0_measure_30 (by first | rfl | assumption) (by first | rfl | assumption) (by omega) ?_
      rw [(hC.2 i hi).trans (congrArg nI hCi)]
      refine G_aload_n (pc := 31) dX0_measure_31 rfl rfl ?_
      refine S_getR (pc := 32) (b := 8) dX0_measure_32 fX0_27 rfl rfl (by first | rfl | assumption) rfl rfl ?_
      refine G_iload_n (pc := 35) dX0_measure_35 rfl rfl ?_
      refine N_iald (pc := 36) dX0_measure_36 (by first | rfl | assumption) (by first | rfl | assumption) (by omega) ?_
      rw [(hC.2 j d1).trans (congrArg nI d2)]
      refine S_callV (av := [_, _]) (pc := 37) (z := mX0_addCuts) (ci := 0) dX0_measure_37 zX0_addCuts lX0_measure_91 rfl (by first | rfl | assumption) rfl rfl (sX0_addCuts hts h0 hp (by omega) hH hP hgn (fun S1 g1 w1 w2 w3 => ⟨_, rfl, ?_⟩))
      refine N_iinc (pc := 40) dX0_measure_40 rfl (by decide) rfl ?_
      refine G_goto (pc := 43) (tgt := 16) dX0_measure_43 (by decide) ?_
      exact ih (q + 1) (j + 1) S1 g1 (by omega) (by omega) d3 (hH.fr (ft_ac w1)) (hC.k (w1.1 6 5 (by omega)) (w1.2.1 8 (by omega))) w2 w3 (fun S' gn' o2 y1 y2 y3 => h S' gn' o2 (w1.tr y1) y2 y3)
    · rw [if_neg hc] at hd
      exact ih (q + 1) j S gn (by omega) hj hd hH hC (by rw [skip_to hp (by omega) hc, skip_to hp (by omega) hc]; exact hP) (by omega) h
set_option maxRecDepth 100000 in
set_option maxHeartbeats 4000000 in
theorem meas_out {S0 : ST} {ts C : List Nat} (hts : TsOk S0 ts) (h0 : ts ≠ []) (hCe : C = cmF S0 ts 40 0) (hCl : C.length ≤ 40) :
    ∀ (d p i : Nat) (S : ST) (gn : Nat) (o2 : Option AV), p + d = 40 → i ≤ C.length → C.drop i = cmF S0 ts d p → FtH S0 S ts → CmIs S C → FtP S0 S ts (pcF S0 ts false (120 * p)) (pcF S0 ts true (120 * p)) gn → gn ≤ 40 * p →
      (∀ (S' : ST) (gn' : Nat) (o1 o2 : Option AV), Fr acX acA S S' → FtP S0 S' ts (pcF S0 ts false 4800) (pcF S0 ts true 4800) gn' → gn' ≤ 1600 → G sc mX0_measure 52 [some (aR 6), o1, o2] [] (mk S') Q) →
      G sc mX0_measure 6 [some (aR 6), some (aI (nI i)), o2] [] (mk S) Q := by
  intro d
  induction d with
  | zero =>
    intro p i S gn o2 hp hi hd hH hC hP hgn h
    have hd := drop_nx hd
    have e : p = 40 := by omega
    subst e
    refine G_iload_n (pc := 6) dX0_measure_6 rfl rfl ?_
    refine G_aload_n (pc := 7) dX0_measure_7 rfl rfl ?_
    refine S_getI (pc := 8) dX0_measure_8 fX0_31 rfl (by first | rfl | assumption) rfl ?_
    rw [hC.1]
    refine N_icmp_ge (pc := 11) (tgt := 52) dX0_measure_11 (by decide) (by omega) (fun c11 => ?_) (fun c11 => absurd c11 (by omega))
    exact h S gn _ _ Fr.rf hP (by omega)
  | succ d ih =>
    intro p i S gn o2 hp hi hd hH hC hP hgn h
    have e0 : cmF S0 ts (d + 1) p = if comB S0 ts p = true then p :: cmF S0 ts d (p + 1) else cmF S0 ts d (p + 1) := rfl
    rw [e0] at hd
    by_cases hc : comB S0 ts p = true
    · rw [if_pos hc] at hd
      obtain ⟨d1, d2, d3⟩ := drop_cx hd
      refine G_iload_n (pc := 6) dX0_measure_6 rfl rfl ?_
      refine G_aload_n (pc := 7) dX0_measure_7 rfl rfl ?_
      refine S_getI (pc := 8) dX0_measure_8 fX0_31 rfl (by first | rfl | assumption) rfl ?_
      rw [hC.1]
      refine N_icmp_ge (pc := 11) (tgt := 52) dX0_measure_11 (by decide) (by omega) (fun c11 => absurd c11 (by omega)) (fun c11 => ?_)
      refine G_iconst (pc := 14) (v := nI 0) dX0_measure_14 (by decide) ?_
      refine G_istore_n (pc := 15) dX0_measure_15 rfl (by decide) rfl ?_
      refine meas_in hts h0 (by omega) d1 d2 hCl 40 0 0 S gn (by omega) (by omega) hCe hH hC hP (by omega) (fun S1 g1 o2 w1 w2 w3 => ?_)
      refine N_iinc (pc := 46) dX0_measure_46 rfl (by decide) rfl ?_
      refine G_goto (pc := 49) (tgt := 6) dX0_measure_49 (by decide) ?_
      exact ih (p + 1) (i + 1) S1 g1 _ (by omega) (by omega) d3 (hH.fr (ft_ac w1)) (hC.k (w1.1 6 5 (by omega)) (w1.2.1 8 (by omega))) w2 w3 (fun S' gn' o1 o2 y1 y2 y3 => h S' gn' o1 o2 (w1.tr y1) y2 y3)
    · rw [if_neg hc] at hd
      exact ih (p + 1) i S gn o2 (by omega) hi hd hH hC (by rw [skip_fr (by omega) hc, skip_fr (by omega) hc]; exact hP) (by omega) h
set_option maxRecDepth 100000 in
set_option maxHeartbeats 4000000 in
theorem meas_ty {S0 : ST} {ts : List Nat} (hts : TsOk S0 ts) (hby : EnBy S0 ts) (h0 : ts ≠ []) :
    ∀ (d m : Nat) (S : ST) (F B : List (Nat × Nat)) (gn : Nat) (o2 : Option AV), m + d = 4 → 1 ≤ m → FtH S0 S ts → FtP S0 S ts F B gn → F.length ≤ 4799 + m → B.length ≤ 4799 + m → gn ≤ 1599 + m →
      (∀ (S' : ST) (gn' : Nat) (o1 o2 : Option AV), Fr acX acA S S' → FtP S0 S' ts (frT S0 ts d m F) (bhT S0 ts d m B) gn' → G sc mX0_measure 70 [some (aR 6), o1, o2] [] (mk S') Q) →
      G sc mX0_measure 54 [some (aR 6), some (aI (nI m)), o2] [] (mk S) Q := by
  intro d
  induction d with
  | zero =>
    intro m S F B gn o2 hm hm1 hH hP hF hB hgn h
    refine G_iload_n (pc := 54) dX0_measure_54 rfl rfl ?_
    refine G_iconst (pc := 55) (v := nI 3) dX0_measure_55 (by decide) ?_
    refine N_icmp_gt (pc := 56) (tgt := 70) dX0_measure_56 (by decide) (by omega) (fun c56 => ?_) (fun c56 => absurd c56 (by omega))
    exact h S gn _ _ Fr.rf hP
  | succ d ih =>
    intro m S F B gn o2 hm hm1 hH hP hF hB hgn h
    have l1 := tApp_len (F := F) (n := onG m ts 0 0) (o := tyF S0 ts m)
    have l2 := tApp_len (F := B) (n := onG m ts 0 0) (o := tyB S0 ts m)
    refine G_iload_n (pc := 54) dX0_measure_54 rfl rfl ?_
    refine G_iconst (pc := 55) (v := nI 3) dX0_measure_55 (by decide) ?_
    refine N_icmp_gt (pc := 56) (tgt := 70) dX0_measure_56 (by decide) (by omega) (fun c56 => absurd c56 (by omega)) (fun c56 => ?_)
    refine G_aload_n (pc := 59) dX0_measure_59 rfl rfl ?_
    refine G_iload_n (pc := 60) dX0_measure_60 rfl rfl ?_
    refine S_callV (av := [_]) (pc := 61) (z := mX0_addTyped) (ci := 0) dX0_measure_61 zX0_addTyped lX0_measure_95 rfl (by first | rfl | assumption) rfl rfl (sX0_addTyped hts hby h0 (by omega) hH hP hF hB hgn (fun S1 g1 w1 w2 w3 => ⟨_, rfl, ?_⟩))
    refine N_iinc (pc := 64) dX0_measure_64 rfl (by decide) rfl ?_
    refine G_goto (pc := 67) (tgt := 54) dX0_measure_67 (by decide) ?_
    exact ih (m + 1) S1 _ _ g1 _ (by omega) (by omega) (hH.fr (ft_ac w1)) w2 (by omega) (by omega) (by omega) (fun S' gn' o1 o2 y1 y2 => h S' gn' o1 o2 (w1.tr y1) y2)
set_option maxRecDepth 100000 in
set_option maxHeartbeats 4000000 in
theorem sX0_measure {S0 : ST} {ts : List Nat} (hts : TsOk S0 ts) (hby : EnBy S0 ts) (h0 : ts ≠ []) (hH : FtH S0 S ts) (hz : ∀ j, j = 9 ∨ j = 12 ∨ j = 13 ∨ j = 14 → S.1 6 j = nI 0) (hLa : LaIs S [] 0) (h : ∀ S', Fr mtX mtA S S' → FtM S0 S' ts → Q none (mk S')) : CT sc mX0_measure [aR 6] (mk S) Q := by
  refine S_of (by decide) rfl ?_
  show G sc mX0_measure 0 [some (aR 6), none, none] [] (mk S) Q
  have hfl := pcF_len S0 ts false 4800
  have hbl := pcF_len S0 ts true 4800
  refine G_aload_n (pc := 0) dX0_measure_0 rfl rfl ?_
  refine S_callV (av := []) (pc := 1) (z := mX0_findCommonPlaces) (ci := 0) dX0_measure_1 zX0_findCommonPlaces lX0_measure_88 rfl (by first | rfl | assumption) rfl rfl (sX0_findCommonPlaces hts hH (fun S1 w1 w2 => ⟨_, rfl, ?_⟩))
  refine G_iconst (pc := 4) (v := nI 0) dX0_measure_4 (by decide) ?_
  refine G_istore_n (pc := 5) dX0_measure_5 rfl (by decide) rfl ?_
  have z1 : ∀ j, j = 9 ∨ j = 12 ∨ j = 13 ∨ j = 14 → S1.1 6 j = nI 0 := fun j hj => (w1.1 6 j (by omega)).trans (hz j hj)
  refine meas_out hts h0 rfl (cmF_len 40 0) 40 0 0 S1 0 _ (by omega) (by omega) rfl (hH.fr (ft_cm w1)) w2 ⟨⟨z1 9 (by omega), fun i hi => by simp [ffL, pcF] at hi⟩, ⟨z1 12 (by omega), fun i hi => by simp [whL, pcF] at hi⟩, hLa.k (fun j => w1.1 12 j (by omega)) (fun a g1 g2 j => w1.2.1 a (by omega) j)⟩ (by omega) (fun S2 g2 o1 o2 x1 x2 x3 => ?_)
  refine G_iconst (pc := 52) (v := nI 1) dX0_measure_52 (by decide) ?_
  refine G_istore_n (pc := 53) dX0_measure_53 rfl (by decide) rfl ?_
  refine meas_ty hts hby h0 3 1 S2 _ _ g2 _ (by omega) (by omega) (hH.fr ((ft_cm w1).tr (ft_ac x1))) x2 (by omega) (by omega) (by omega) (fun S3 g3 o1 o2 y1 y2 => ?_)
  have hF1 : FU S0 ts (FFo S0 ts) := fun q hq => FU_fr q (List.mem_filter.mp hq).1
  have l1 := @ffL_len S0 ts (frA S0 ts)
  have l2 := @frA_len S0 ts
  have z3 : ∀ j, j = 13 ∨ j = 14 → S3.1 6 j = nI 0 := fun j hj => (y1.1 6 j (by omega)).trans ((x1.1 6 j (by omega)).trans (z1 j (by omega)))
  have hH3 := hH.fr ((ft_cm w1).tr ((ft_ac x1).tr (ft_ac y1)))
  refine G_aload_n (pc := 70) dX0_measure_70 rfl rfl ?_
  refine S_callV (av := []) (pc := 71) (z := mX0_joinPieces) (ci := 0) dX0_measure_71 zX0_joinPieces lX0_measure_99 rfl (by first | rfl | assumption) rfl rfl (sX0_joinPieces (FF := FFo S0 ts) (LB := LBo S0 ts) hts hby h0 hH3 y2.2.2 y2.1 (show (ffL S0 ts (frA S0 ts)).length ≤ 4803 by omega) (FU_lt hts hF1) (z3 13 (by omega)) (z3 14 (by omega)) (fun S4 v1 v2 v3 v4 v5 => ⟨_, rfl, ?_⟩))
  refine S_vret (pc := 74) dX0_measure_74 rfl ?_
  exact h S4 ((mt_cm w1).tr ((mt_ac x1).tr ((mt_ac y1).tr (mt_j v1)))) ⟨hH3.fr (ft_j v1), y2.2.1.k (v1.1 6 12 (by omega)) (v1.2.1 20 (by omega)), ⟨g3, y2.2.2.j v1⟩, ⟨v2, v3⟩, v4, v5⟩
end C12
