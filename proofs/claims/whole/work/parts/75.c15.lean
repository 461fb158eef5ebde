/-! the class: Fit ranks programs -/
theorem PgK_n : ∀ i, i < 64 → PgK (22 + 2 * i) := by unfold PgK; decide
def NrIs (S : ST) (N : List (List Nat)) : Prop := S.1 6 16 = nI N.length ∧ N.length ≤ 64 ∧ ∀ i, i < N.length → PgIs S (22 + 2 * i) (N.getD i [])
abbrev nrX (a j : Nat) : Prop := (a = 6 ∧ j = 16) ∨ (22 ≤ a ∧ a ≤ 149)
abbrev nrA (a : Nat) : Prop := 22 ≤ a ∧ a ≤ 149
theorem ft_nr {S S' : ST} (h : Fr nrX nrA S S') : Fr ftX ftA S S' := h.mono (fun a j q => by rcases q with ⟨q, z⟩ | q; left; exact ⟨q, by omega⟩; right; omega) (fun a q => by constructor <;> omega)
theorem LaIs.nr {S S' : ST} {LB : List (Nat × Nat)} {g : Nat} (h : LaIs S LB g) (f : Fr nrX nrA S S') : LaIs S' LB g := h.k (fun j => f.1 12 j (by omega)) (fun a h1 h2 j => f.2.1 a (by omega) j)
theorem FtM.nr {S0 S S' : ST} {ts : List Nat} (h : FtM S0 S ts) (f : Fr nrX nrA S S') : FtM S0 S' ts := by
  obtain ⟨a1, a2, ⟨g, a3⟩, ⟨a4, a5⟩, a6, a7⟩ := h
  exact ⟨a1.fr (ft_nr f), a2.k (f.1 6 12 (by omega)) (f.2.1 20 (by omega)), ⟨g, a3.nr f⟩, ⟨(f.1 6 9 (by omega)).trans a4, fun l hl => by rw [f.2.1 9 (by omega), f.2.1 10 (by omega), f.2.1 11 (by omega)]; exact a5 l hl⟩, (f.1 6 13 (by omega)).trans a6, (f.1 6 14 (by omega)).trans a7⟩
theorem getD_la {N : List (List Nat)} {x : List Nat} : (N ++ [x]).getD N.length [] = x := by simp
theorem getD_lb {N : List (List Nat)} {x : List Nat} {i : Nat} (h : i < N.length) : (N ++ [x]).getD i [] = N.getD i [] := by
  rw [List.getD_eq_getElem?_getD, List.getD_eq_getElem?_getD, List.getElem?_append_left h]
def nxS (S : ST) (n : Nat) : ST := upX (upX S (22 + 2 * n) 1 (nI 0)) 6 16 (nI (n + 1))
theorem nxS_fr {S : ST} {n : Nat} (hn : n < 64) : Fr nrX nrA S (nxS S n) := Fr.tr (Fr.upX (Or.inr (by omega))) (Fr.upX (Or.inl ⟨rfl, rfl⟩))
theorem nr_pg {S S' : ST} {n : Nat} (hn : n < 64) (h : Fr (pgX (22 + 2 * n)) (pgA (22 + 2 * n)) S S') : Fr nrX nrA S S' := h.mono (fun a j q => Or.inr (by omega)) (fun a q => by constructor <;> omega)
theorem nxS_nil {S : ST} {n : Nat} : PgIs (nxS S n) (22 + 2 * n) [] := ⟨by unfold nxS; rw [upX_n (by omega), upX_s]; rfl, by simp, fun i hi => by simp at hi⟩
theorem NrIs.push {S S' : ST} {N : List (List Nat)} {ps : List Nat} (h : NrIs S N) (hn : N.length < 64) (f : Fr (pgX (22 + 2 * N.length)) (pgA (22 + 2 * N.length)) (nxS S N.length) S') (hp : PgIs S' (22 + 2 * N.length) ps) : NrIs S' (N ++ [ps]) := by
  refine ⟨?_, by simp; omega, fun i hi => ?_⟩
  · rw [f.1 6 16 (by show ¬ (_ ∧ _); omega)]
    unfold nxS
    rw [upX_s]
    simp
  · by_cases e : i = N.length
    · subst e
      rw [getD_la]
      exact hp
    · have hi : i < N.length := by simp at hi; omega
      rw [getD_lb hi]
      have h1 : PgIs (nxS S N.length) (22 + 2 * i) (N.getD i []) := by
        obtain ⟨b1, b2, b3⟩ := h.2.2 i hi
        refine ⟨?_, b2, b3⟩
        unfold nxS
        rw [upX_n (by omega), upX_n (by omega)]
        exact b1
      exact h1.fr f (by show ¬ (_ ∧ _); omega) (by show ¬ _ = _; omega)
/-- N and then l, but no more than cap -/
def tkc (cap : Nat) (N l : List (List Nat)) : List (List Nat) := (N ++ l).take cap
theorem tkc_le (cap : Nat) (N l : List (List Nat)) : (tkc cap N l).length ≤ cap := by unfold tkc; rw [List.length_take]; omega
theorem tkc_nil {cap : Nat} {N : List (List Nat)} (h : N.length ≤ cap) : tkc cap N [] = N := by unfold tkc; rw [List.append_nil, List.take_of_length_le h]
theorem tkc_full {cap : Nat} {N l : List (List Nat)} (h : N.length = cap) : tkc cap N l = N := by
  unfold tkc
  rw [← h, List.take_left]
theorem tkc_1 {cap : Nat} {N : List (List Nat)} {x : List Nat} (h : N.length < cap) : tkc cap N [x] = N ++ [x] := by
  unfold tkc
  exact List.take_of_length_le (by simp; omega)
theorem tkc_app {cap : Nat} {N l m : List (List Nat)} : tkc cap (tkc cap N l) m = tkc cap N (l ++ m) := by
  unfold tkc
  rw [← List.append_assoc, List.take_append, List.take_take, List.length_take, List.take_append (l₁ := N ++ l)]
  congr 1
  · congr 1; omega
  · congr 1; omega
theorem fitN_le {S : ST} {ts : List Nat} {n : Nat} (hts : TsOk S ts) (h0 : ts ≠ []) (hby : EnBy S ts) : fitN S ts n ≤ 69206427 := by
  have h1 := fitP_le (S := S) (ts := ts) (F := frA S ts) (n := n) (bhA_ok h0 hts hby).2 (frA S ts).length
  have h2 := (frA_ok h0 hts hby).2
  unfold fitN
  omega
def capN (S : ST) (ts : List Nat) : Nat := min 64 (fitN S ts 1 + fitN S ts 2 + fitN S ts 3)
theorem FtM.cnt {S0 S : ST} {ts : List Nat} (h : FtM S0 S ts) (hts : TsOk S0 ts) (h0 : ts ≠ []) (hby : EnBy S0 ts) : S.1 6 12 = nI (fitN S0 ts 1) ∧ S.1 6 13 = nI (fitN S0 ts 2) ∧ S.1 6 14 = nI (fitN S0 ts 3) := by
  obtain ⟨a1, a2, a3, a4, a6, a7⟩ := h
  refine ⟨?_, ?_, ?_⟩
  · rw [a2.1, whL_cnt hts]
  · rw [a6, prS_cnt hts h0 hby]
  · rw [a7, tpS_cnt hts h0 hby]
theorem fb_0 {S : ST} {ts : List Nat} {LB : List (Nat × Nat)} {L : Nat} : fbG S ts LB L 3 % 2 = if 0 < cntB LB L then 1 else 0 := by
  simp only [fbG]
  repeat' split
  all_goals omega
theorem fb_k {S : ST} {ts : List Nat} {LB : List (Nat × Nat)} {L k : Nat} (hk : 1 ≤ k ∧ k ≤ 3) : fbG S ts LB L 3 / 2 ^ k % 2 = if 0 < trN S ts LB L k then 1 else 0 := by
  rcases (show k = 1 ∨ k = 2 ∨ k = 3 by omega) with rfl | rfl | rfl
  · simp only [fbG]
    repeat' split
    all_goals omega
  · simp only [fbG]
    repeat' split
    all_goals omega
  · simp only [fbG]
    repeat' split
    all_goals omega
theorem fb_no {S : ST} {ts : List Nat} {LB : List (Nat × Nat)} {L : Nat} (h : fbG S ts LB L 3 = 0) : cntB LB L = 0 ∧ ∀ k, 1 ≤ k ∧ k ≤ 3 → trN S ts LB L k = 0 := by
  refine ⟨?_, fun k hk => ?_⟩
  · have := fb_0 (S := S) (ts := ts) (LB := LB) (L := L)
    rw [h] at this
    by_cases q : 0 < cntB LB L
    · rw [if_pos q] at this; omega
    · omega
  · have := fb_k (S := S) (ts := ts) (LB := LB) (L := L) hk
    rw [h, Nat.zero_div] at this
    by_cases q : 0 < trN S ts LB L k
    · rw [if_pos q] at this; omega
    · omega
theorem mtI_nil {LB : List (Nat × Nat)} {x : Nat} {c : Int} (h : cntB LB x = 0) : mtI LB x c = [] := by
  unfold mtI
  split
  · exact mt_none _ _ ((fi_none _ _).mpr (fun j _ h2 q => cntB_0 h j (by omega) q.1))
  · rfl
section C15
variable {sc : SC} {S : ST} {Q : Option AV → HM → Prop}
set_option maxRecDepth 100000 in
set_option maxHeartbeats 4000000 in
theorem sX0_isRanked {w p t n : Nat} (hw : S.1 6 12 = nI w) (hp : S.1 6 13 = nI p) (ht : S.1 6 14 = nI t) (hb : w + p + t < 2147483648) (hn : S.1 6 16 = nI n) (hn2 : n ≤ 64) (h : Q (some (aI (bI (decide (min 64 (w + p + t) ≤ n))))) (mk S)) : CT sc mX0_isRanked [aR 6] (mk S) Q := by
  refine S_of (by decide) rfl ?_
  show G sc mX0_isRanked 0 [some (aR 6)] [] (mk S) Q
  have e0 : hmN w p t 0 = w + p + t := rfl
  refine G_aload_n (pc := 0) dX0_isRanked_0 rfl rfl ?_
  refine S_getI (pc := 1) dX0_isRanked_1 fX0_72 rfl (by first | rfl | assumption) rfl ?_
  rw [hn]
  refine G_bipush (pc := 4) (v := nI 64) dX0_isRanked_4 (by decide) ?_
  refine N_icmp_ge (pc := 6) (tgt := 21) dX0_isRanked_6 (by decide) (by omega) (fun c6 => ?_) (fun c6 => ?_)
  · skip
    refine G_iconst (pc := 21) (v := nI 1) dX0_isRanked_21 (by decide) ?_
    refine G_goto (pc := 22) (tgt := 26) dX0_isRanked_22 (by decide) ?_
    refine S_zret (pc := 26) dX0_isRanked_26 rfl rfl ?_
    exact q_i h (by first | exact z_f (decide_eq_false (by omega)) | exact z_t (decide_eq_true (by omega)))
  · skip
    refine G_aload_n (pc := 9) dX0_isRanked_9 rfl rfl ?_
    refine S_getI (pc := 10) dX0_isRanked_10 fX0_72 rfl (by first | rfl | assumption) rfl ?_
    rw [hn]
    refine G_aload_n (pc := 13) dX0_isRanked_13 rfl rfl ?_
    refine G_iconst (pc := 14) (v := nI 0) dX0_isRanked_14 (by decide) ?_
    refine S_callV (av := [_]) (pc := 15) (z := mX0_howMany) (ci := 0) dX0_isRanked_15 zX0_howMany lX0_isRanked_147 rfl (by first | rfl | assumption) rfl rfl (sX0_howMany (k := 0) (by omega) hw hp ht ⟨_, rfl, ?_⟩)
    rw [e0]
    refine N_icmp_lt (pc := 18) (tgt := 25) dX0_isRanked_18 (by decide) (by omega) (fun c18 => ?_) (fun c18 => ?_)
    · skip
      refine G_iconst (pc := 25) (v := nI 0) dX0_isRanked_25 (by decide) ?_
      refine S_zret (pc := 26) dX0_isRanked_26 rfl rfl ?_
      exact q_i h (by first | exact z_f (decide_eq_false (by omega)) | exact z_t (decide_eq_true (by omega)))
    · skip
      refine G_iconst (pc := 21) (v := nI 1) dX0_isRanked_21 (by decide) ?_
      refine G_goto (pc := 22) (tgt := 26) dX0_isRanked_22 (by decide) ?_
      refine S_zret (pc := 26) dX0_isRanked_26 rfl rfl ?_
      exact q_i h (by first | exact z_f (decide_eq_false (by omega)) | exact z_t (decide_eq_true (by omega)))
set_option maxRecDepth 100000 in
set_option maxHeartbeats 4000000 in
theorem sX0_nextNearest {n : Nat} (hn : S.1 6 16 = nI n) (hn2 : n < 64) (h : Q (some (aR (22 + 2 * n))) (mk (nxS S n))) : CT sc mX0_nextNearest [aR 6] (mk S) Q := by
  refine S_of (by decide) rfl ?_
  show G sc mX0_nextNearest 0 [some (aR 6), none] [] (mk S) Q
  have hk := PgK_n n hn2
  have hk0 := hk
  obtain ⟨k1, k2⟩ := hk
  refine G_aload_n (pc := 0) dX0_nextNearest_0 rfl rfl ?_
  refine S_getR (pc := 1) (b := 21) dX0_nextNearest_1 fX0_68 rfl rfl (by first | rfl | assumption) rfl rfl ?_
  refine G_aload_n (pc := 4) dX0_nextNearest_4 rfl rfl ?_
  refine S_getI (pc := 5) dX0_nextNearest_5 fX0_72 rfl (by first | rfl | assumption) rfl ?_
  rw [hn]
  refine N_aald (pc := 8) (t := 4) (n := 64) (b := 22 + 2 * n) dX0_nextNearest_8 (by first | rfl | assumption) (by first | rfl | assumption) (by decide) (by omega) rfl ?_
  refine G_astore_n (pc := 9) dX0_nextNearest_9 rfl (by decide) rfl ?_
  refine G_aload_n (pc := 10) dX0_nextNearest_10 rfl rfl ?_
  refine S_callV (av := []) (pc := 11) (z := mX3_clear) (ci := 2) dX0_nextNearest_11 zX3_clear lX0_nextNearest_168 rfl (by first | rfl | assumption) rfl rfl (sX3_clear hk0 ⟨_, rfl, ?_⟩)
  refine G_aload_n (pc := 14) dX0_nextNearest_14 rfl rfl ?_
  refine G_dup (pc := 15) dX0_nextNearest_15 rfl ?_
  refine S_getI (pc := 16) dX0_nextNearest_16 fX0_72 rfl (by first | rfl | assumption) rfl ?_
  rw [show (upX S (22 + 2 * n) 1 (nI 0)).1 6 16 = nI n from (upX_n (by omega)).trans hn]
  refine G_iconst (pc := 19) (v := nI 1) dX0_nextNearest_19 (by decide) ?_
  refine N_iadd (pc := 20) dX0_nextNearest_20 ?_
  refine S_putI (pc := 21) dX0_nextNearest_21 fX0_72 (by decide) rfl (by first | rfl | assumption) rfl ?_
  refine G_aload_n (pc := 24) dX0_nextNearest_24 rfl rfl ?_
  refine S_aret (pc := 25) dX0_nextNearest_25 rfl ?_
  exact h
set_option maxRecDepth 100000 in
set_option maxHeartbeats 4000000 in
theorem rankW_lp {S0 : ST} {ts : List Nat} {c z : Nat} (hts : TsOk S0 ts) (h0 : ts ≠ []) (hby : EnBy S0 ts) (hc : c ≤ 15) (hz : z ≤ 4803) :
    ∀ (r : List Nat) (i : Nat) (N : List (List Nat)) (S : ST), i + r.length = z → S.1 6 12 = nI z → (∀ l, l < r.length → S.2.1 20 (i + l) = nI (r.getD l 0)) → (∀ p ∈ r, isPc p) → FtM S0 S ts → NrIs S N → N.length ≤ capN S0 ts → (∀ S', Fr nrX nrA S S' → NrIs S' (tkc (capN S0 ts) N ((r.filter (fun p => costN p == c)).map (fun p => [p]))) → Q none (mk S')) →
      G sc mX0_rankWholes 2 [some (aR 6), some (aI (nI c)), some (aI (nI i))] [] (mk S) Q := by
  have b1 := fitN_le (n := 1) hts h0 hby
  have b2 := fitN_le (n := 2) hts h0 hby
  have b3 := fitN_le (n := 3) hts h0 hby
  intro r
  induction r with
  | nil =>
    intro i N S hi h12 hr hp hM hN hNl h
    have hi : i + 0 = z := hi
    have h : ∀ S', Fr nrX nrA S S' → NrIs S' (tkc (capN S0 ts) N []) → Q none (mk S') := h
    rw [tkc_nil hNl] at h
    refine G_iload_n (pc := 2) dX0_rankWholes_2 rfl rfl ?_
    refine G_aload_n (pc := 3) dX0_rankWholes_3 rfl rfl ?_
    refine S_getI (pc := 4) dX0_rankWholes_4 fX0_57 rfl (by first | rfl | assumption) rfl ?_
    rw [h12]
    refine N_icmp_ge (pc := 7) (tgt := 49) dX0_rankWholes_7 (by decide) (by omega) (fun c7 => ?_) (fun c7 => absurd c7 (by omega))
    refine S_vret (pc := 49) dX0_rankWholes_49 rfl ?_
    exact h S Fr.rf hN
  | cons p r ih =>
    intro i N S hi h12 hr hp hM hN hNl h
    have hi : i + (r.length + 1) = z := hi
    have hr0 : S.2.1 20 i = nI p := hr 0 (by simp)
    have hpc := hp p List.mem_cons_self
    have hp2 := isPc_lt hpc
    have hcb := cost_b hpc
    obtain ⟨m1, m2, m3⟩ := hM.cnt hts h0 hby
    have hN64 := hN.2.1
    have ih2 := fun N S' (f : Fr nrX nrA S S') (g1 : NrIs S' N) (g2 : N.length ≤ capN S0 ts) => ih (i + 1) N S' (by omega) ((f.1 6 12 (by omega)).trans h12) (fun l hl => by rw [f.2.1 20 (by omega), show i + 1 + l = i + (l + 1) by omega, hr (l + 1) (by simp; omega)]; simp) (fun x hx => hp x (List.mem_cons_of_mem _ hx)) (hM.nr f) g1 g2
    rw [List.filter_cons] at h
    refine G_iload_n (pc := 2) dX0_rankWholes_2 rfl rfl ?_
    refine G_aload_n (pc := 3) dX0_rankWholes_3 rfl rfl ?_
    refine S_getI (pc := 4) dX0_rankWholes_4 fX0_57 rfl (by first | rfl | assumption) rfl ?_
    rw [h12]
    refine N_icmp_ge (pc := 7) (tgt := 49) dX0_rankWholes_7 (by decide) (by omega) (fun c7 => absurd c7 (by omega)) (fun c7 => ?_)
    refine G_aload_n (pc := 10) dX0_rankWholes_10 rfl rfl ?_
    refine S_callV (av := []) (pc := 11) (z := mX0_isRanked) (ci := 0) dX0_rankWholes_11 zX0_isRanked lX0_rankWholes_134 rfl (by first | rfl | assumption) rfl rfl (sX0_isRanked m1 m2 m3 (by omega) hN.1 hN64 ⟨_, rfl, ?_⟩)
    refine B_if_ne (pc := 14) (tgt := 49) dX0_rankWholes_14 (by decide) (fun c14 => ?_) (fun c14 => ?_)
    · skip
      rw [decide_eq_true_eq] at c14
      rw [tkc_full (by unfold capN at hNl ⊢; omega)] at h
      refine S_vret (pc := 49) dX0_rankWholes_49 rfl ?_
      exact h S Fr.rf hN
    · skip
      rw [decide_eq_false_iff_not] at c14
      have hlt : N.length < capN S0 ts := by unfold capN; omega
      have hl64 : N.length < 64 := by unfold capN at hlt; omega
      refine G_aload_n (pc := 17) dX0_rankWholes_17 rfl rfl ?_
      refine S_getR (pc := 18) (b := 20) dX0_rankWholes_18 fX0_54 rfl rfl (by first | rfl | assumption) rfl rfl ?_
      refine G_iload_n (pc := 21) dX0_rankWholes_21 rfl rfl ?_
      refine N_iald (pc := 22) dX0_rankWholes_22 (by first | rfl | assumption) (by first | rfl | assumption) (by omega) ?_
      rw [hr0]
      refine S_callS (av := [_]) (pc := 23) (z := mX3_costOf) dX0_rankWholes_23 zX3_costOf lX0_rankWholes_150 rfl (sX3_costOf (by omega) ⟨_, rfl, ?_⟩)
      refine G_iload_n (pc := 26) dX0_rankWholes_26 rfl rfl ?_
      refine N_icmp_ne (pc := 27) (tgt := 43) dX0_rankWholes_27 (by decide) (by omega) (fun c27 => ?_) (fun c27 => ?_)
      · skip
        rw [if_neg (by simpa using c27)] at h
        refine N_iinc (pc := 43) dX0_rankWholes_43 rfl (by decide) rfl ?_
        refine G_goto (pc := 46) (tgt := 2) dX0_rankWholes_46 (by decide) ?_
        first
        | exact ih2 N S Fr.rf hN hNl (fun S' f g => h S' f g)
        | (have g0 := (nxS_fr (S := S) hl64).tr (nr_pg hl64 w1)
           have g1 : NrIs S2 (N ++ [[p]]) := hN.push hl64 w1 w2
           refine ih2 (N ++ [[p]]) S2 g0 g1 (by simp; omega) (fun S' f g => h S' (g0.tr f) ?_)
           rw [List.map_cons, show ([p] :: (r.filter (fun p => costN p == c)).map (fun p => [p])) = [[p]] ++ (r.filter (fun p => costN p == c)).map (fun p => [p]) from rfl, ← tkc_app, tkc_1 hlt]
           exact g)
      · skip
        rw [if_pos (by simpa using c27)] at h
        refine G_aload_n (pc := 30) dX0_rankWholes_30 rfl rfl ?_
        refine S_callV (av := []) (pc := 31) (z := mX0_nextNearest) (ci := 0) dX0_rankWholes_31 zX0_nextNearest lX0_rankWholes_153 rfl (by first | rfl | assumption) rfl rfl (sX0_nextNearest hN.1 hl64 ⟨_, rfl, ?_⟩)
        refine G_aload_n (pc := 34) dX0_rankWholes_34 rfl rfl ?_
        refine S_getR (pc := 35) (b := 20) dX0_rankWholes_35 fX0_54 rfl rfl (by first | rfl | assumption) rfl rfl ?_
        refine G_iload_n (pc := 38) dX0_rankWholes_38 rfl rfl ?_
        refine N_iald (pc := 39) dX0_rankWholes_39 (by first | rfl | assumption) (by first | rfl | assumption) (by omega) ?_
        rw [show (nxS S N.length).2.1 20 i = nI p from hr0]
        refine S_callV (av := [_]) (pc := 40) (z := mX3_add) (ci := 2) dX0_rankWholes_40 zX3_add lX0_rankWholes_157 rfl (PgK_n N.length hl64).1 rfl rfl (sX3_add (PgK_n N.length hl64) nxS_nil (by simp) (fun S2 w1 w2 => ⟨_, rfl, ?_⟩))
        refine N_iinc (pc := 43) dX0_rankWholes_43 rfl (by decide) rfl ?_
        refine G_goto (pc := 46) (tgt := 2) dX0_rankWholes_46 (by decide) ?_
        first
        | exact ih2 N S Fr.rf hN hNl (fun S' f g => h S' f g)
        | (have g0 := (nxS_fr (S := S) hl64).tr (nr_pg hl64 w1)
           have g1 : NrIs S2 (N ++ [[p]]) := hN.push hl64 w1 w2
           refine ih2 (N ++ [[p]]) S2 g0 g1 (by simp; omega) (fun S' f g => h S' (g0.tr f) ?_)
           rw [List.map_cons, show ([p] :: (r.filter (fun p => costN p == c)).map (fun p => [p])) = [[p]] ++ (r.filter (fun p => costN p == c)).map (fun p => [p]) from rfl, ← tkc_app, tkc_1 hlt]
           exact g)
set_option maxRecDepth 100000 in
set_option maxHeartbeats 4000000 in
theorem sX0_rankWholes {S0 : ST} {ts : List Nat} {c : Nat} {N : List (List Nat)} (hts : TsOk S0 ts) (h0 : ts ≠ []) (hby : EnBy S0 ts) (hc : c ≤ 15) (hM : FtM S0 S ts) (hN : NrIs S N) (hNl : N.length ≤ capN S0 ts) (h : ∀ S', Fr nrX nrA S S' → NrIs S' (tkc (capN S0 ts) N (oneF S0 ts (frA S0 ts) c (frA S0 ts).length 0)) → Q none (mk S')) : CT sc mX0_rankWholes [aR 6, aI (nI c)] (mk S) Q := by
  refine S_of (by decide) rfl ?_
  show G sc mX0_rankWholes 0 [some (aR 6), some (aI (nI c)), none] [] (mk S) Q
  have l1 := @whL_len S0 ts (frA S0 ts)
  have hF := frA_ok h0 hts hby
  have hW := hM.2.1
  have e : oneF S0 ts (frA S0 ts) c (frA S0 ts).length 0 = ((whL S0 ts (frA S0 ts)).filter (fun p => costN p == c)).map (fun p => [p]) := by
    rw [oneF_l _ 0 (by omega), List.drop_zero]
    unfold whL
    rw [List.filter_map, List.filter_filter, List.map_map]
    have e1 : (frA S0 ts).filter (fun q => allG S0 q.2 ts 0 && costN q.1 == c) = (frA S0 ts).filter (fun a => ((fun p => costN p == c) ∘ Prod.fst) a && a.2 == fuN S0 ts) := by
      apply List.filter_congr
      intro q hq
      obtain ⟨u, eu, hu⟩ := FU_fr q hq
      have h1 := all_fu hts eu hu
      rw [Bool.eq_iff_iff]
      simp only [Function.comp, Bool.and_eq_true, beq_iff_eq, h1]
      exact and_comm
    rw [e1]
    rfl
  rw [e] at h
  refine G_iconst (pc := 0) (v := nI 0) dX0_rankWholes_0 (by decide) ?_
  refine G_istore_n (pc := 1) dX0_rankWholes_1 rfl (by decide) rfl ?_
  exact rankW_lp hts h0 hby hc (by omega) _ 0 N S (by omega) hW.1 (fun l hl => by rw [Nat.zero_add]; exact hW.2 l hl) (fun p hp => by
    obtain ⟨q, hq, rfl⟩ := List.mem_map.mp hp
    exact (hF.1 q (List.mem_filter.mp hq).1).1) hM hN hNl h
end C15
