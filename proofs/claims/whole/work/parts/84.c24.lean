/-! the class: queries of things and programs -/
theorem FtR.fx {Z S S' : ST} {ts : List Nat} {px : Nat → Nat → Prop} {pi : Nat → Prop} (h : FtR Z S ts) (g : Fr px pi S S') (hx : ∀ a j, (6 ≤ a ∧ a ≤ 149) ∨ (289 ≤ a ∧ a ≤ 372) → ¬ px a j) (hi : ∀ a, (6 ≤ a ∧ a ≤ 149) ∨ (289 ≤ a ∧ a ≤ 372) → ¬ pi a) (ht : ∀ t ∈ ts, t < 12) : FtR Z S' ts := by
  obtain ⟨⟨⟨q1, q2, q3, q4, q5⟩, a2, ⟨gg, a3⟩, ⟨a4, a5⟩, a6, a7⟩, y1, y2, y3⟩ := h
  have fx : ∀ j, S'.1 6 j = S.1 6 j := fun j => g.1 6 j (hx 6 j (by omega))
  refine ⟨⟨⟨(fx 1).trans q1, (fx 2).trans q2, (fx 3).trans q3, fun k hk => by rw [g.2.2]; exact q4 k hk, fun t h1 => ?_⟩, a2.k (fx 12) (g.2.1 20 (hi 20 (by omega))), ⟨gg, a3.k (fun j => g.1 12 j (hx 12 j (by omega))) (fun a h1 h2 j => g.2.1 a (hi a (by omega)) j)⟩, ⟨(fx 9).trans a4, fun l hl => by rw [g.2.1 9 (hi 9 (by omega)), g.2.1 10 (hi 10 (by omega)), g.2.1 11 (hi 11 (by omega))]; exact a5 l hl⟩, (fx 13).trans a6, (fx 14).trans a7⟩, (fx 16).trans y1, y2, fun i h1 => (y3 i h1).fr g (hx _ _ (by omega)) (hi _ (by omega))⟩
  have := ht t h1
  obtain ⟨b1, b2, b3, b4⟩ := q5 t h1
  exact ⟨b1.fr g (hx _ _ (by omega)) (hi _ (by omega)), b2.fr g (hi _ (by omega)), b3.fr g (hx _ _ (by omega)) (hi _ (by omega)), b4.fr g (hi _ (by omega))⟩
theorem sh_12 {S : ST} (h : thN S ≤ 12) : ∀ t ∈ shL S 0, t < 12 := fun t ht => by have := shL_mem ht; omega
theorem CIf.fx {S0 S S' : ST} {px : Nat → Nat → Prop} {pi : Nat → Prop} (h : CIf S0 S) (hth : thN S0 ≤ 12) (g : Fr px pi S S') (h5 : ¬ px 0 5) (hx : ∀ a j, (6 ≤ a ∧ a ≤ 149) ∨ (289 ≤ a ∧ a ≤ 372) → ¬ px a j) (hi : ∀ a, (6 ≤ a ∧ a ≤ 149) ∨ (289 ≤ a ∧ a ≤ 372) → ¬ pi a) : CIf S0 S' := by
  obtain ⟨⟨LB, gg, h1⟩, h2⟩ := h
  refine ⟨⟨LB, gg, h1.k (fun j => g.1 12 j (hx 12 j (by omega))) (fun a q1 q2 j => g.2.1 a (hi a (by omega)) j)⟩, ?_⟩
  rcases h2 with h2 | ⟨h2, h3, Z, z1, z2, z3, z4⟩
  · exact Or.inl ((g.1 0 5 h5).trans h2)
  · exact Or.inr ⟨(g.1 0 5 h5).trans h2, h3, Z, z1, z2, z3, z4.fx g hx hi (sh_12 hth)⟩
theorem FtZ.fx {S0 S S' : ST} {px : Nat → Nat → Prop} {pi : Nat → Prop} (h : FtZ S0 S) (hth : thN S0 ≤ 12) (g : Fr px pi S S') (hx : ∀ a j, (6 ≤ a ∧ a ≤ 149) ∨ (289 ≤ a ∧ a ≤ 372) → ¬ px a j) (hi : ∀ a, (6 ≤ a ∧ a ≤ 149) ∨ (289 ≤ a ∧ a ≤ 372) → ¬ pi a) : FtZ S0 S' := by
  obtain ⟨Z, z1, z2, z3, z4⟩ := h
  exact ⟨Z, z1, z2, z3, z4.fx g hx hi (sh_12 hth)⟩
def CPr (S0 S : ST) : Prop := S.1 0 11 = nI (kpN S0) ∧ ∀ p, p < kpN S0 → PgIs S (373 + 2 * p) (prL S0 408 (3 * p)) ∧ PbOk (prL S0 408 (3 * p)) ∧ PgOk (prL S0 408 (3 * p))
/-- a line as a list -/
def lst (b : Nat → Int32) (n : Nat) : List Int32 := (List.range n).map b
theorem lst_len {b : Nat → Int32} {n : Nat} : (lst b n).length = n := by simp [lst]
theorem lst_at {b : Nat → Int32} {n i : Nat} (h : i < n) : (lst b n).getD i 0 = b i := by
  unfold lst
  rw [List.getD_eq_getElem?_getD, List.getElem?_map, List.getElem?_range h]
  rfl
theorem LnIs.rw {S : ST} {a n : Nat} {b : Nat → Int32} (h : LnIs S a b n) : RwIs S (a + 1) (lst b n) := ⟨by rw [lst_len]; exact h.1, fun i hi => by rw [lst_len] at hi; rw [lst_at hi]; exact h.2 i hi⟩
theorem EnIs.rw {S : ST} {a n : Nat} {b : Nat → Int32} (h : EnIs S a b n) : RwIs S (a + 4) (lst b n) := ⟨by rw [lst_len]; exact h.1, fun i hi => by rw [lst_len] at hi; rw [lst_at hi]; exact h.2 i hi⟩
theorem isTh_k {n : Nat} {t : Int32} (h : isTh n t = true) (hn : n < 1000) : ∃ k, t = nI k ∧ k < n ∧ t.toNatClampNeg = k := by
  unfold isTh at h
  rw [decide_eq_true_eq] at h
  exact ⟨t.toInt.toNat, nI_ofT (by omega), by omega, nI_clampT (by omega)⟩
abbrev quX (a j : Nat) : Prop := (a = 0 ∧ (j = 5 ∨ j = 6)) ∨ (a = 3 ∧ j = 1) ∨ (6 ≤ a ∧ a ≤ 280)
abbrev quA (a : Nat) : Prop := a = 4 ∨ (6 ≤ a ∧ a ≤ 280)
theorem qu_sc {S S' : ST} (h : Fr scX scA S S') : FrN quX quA S S' := h.n.mono (fun a j q => Or.inr (Or.inl q)) (fun a q => Or.inl q)
theorem qu_fq {S S' : ST} (h : FrN fqX mwA S S') : FrN quX quA S S' := h.mono (fun a j q => by rcases q with q | q; left; omega; right; right; omega) (fun a q => Or.inr (by omega))
theorem qu_sl {S S' : ST} (h : FrN slX mwA S S') : FrN quX quA S S' := h.mono (fun a j q => by rcases q with q | q; left; omega; right; right; omega) (fun a q => Or.inr (by omega))
theorem qu_ta {S S' : ST} (h : Fr taX taA S S') : FrN quX quA S S' := h.n.mono (fun a j q => by rcases q with q | q <;> (right; right; omega)) (fun a q => Or.inr (by omega))
theorem CIf.sc1 {S0 S S' : ST} (h : CIf S0 S) (hth : thN S0 ≤ 12) (g : Fr scX scA S S') : CIf S0 S' := h.fx hth g (by omega) (fun a j q => by omega) (fun a q => by omega)
theorem CIf.ta {S0 S S' : ST} (h : CIf S0 S) (hth : thN S0 ≤ 12) (g : Fr taX taA S S') : CIf S0 S' := h.fx hth g (by omega) (fun a j q => by omega) (fun a q => by omega)
theorem CIs.fn {S0 S S' : ST} (h : CIs S0 S) (e : S'.1 0 6 = S.1 0 6) : CIs S0 S' := by unfold CIs; rw [e]; exact h
theorem CTh.qu {S0 S S' : ST} (h : CTh S0 S) (g : FrN quX quA S S') : CTh S0 S' := h.fn g (by omega) (fun a j q z => by omega) (fun a q z => by omega)
theorem CPr.qu {S0 S S' : ST} (h : CPr S0 S) (hk : kpN S0 ≤ 4) (g : FrN quX quA S S') : CPr S0 S' := ⟨(g.1 0 11 (by omega)).trans h.1, fun p hp => by
  obtain ⟨⟨a1, a2, a3⟩, a4⟩ := h.2 p hp
  exact ⟨⟨(g.1 _ _ (by omega)).trans a1, a2, fun i hi => (g.2 _ (by omega) i).trans (a3 i hi)⟩, a4⟩⟩
section C24
variable {sc : SC} {S : ST} {Q : Option AV → HM → Prop}
set_option maxRecDepth 100000 in
set_option maxHeartbeats 4000000 in
theorem sX9_state {S0 : ST} {t : Int32} (ha : MIa S0) (hC : CTh S0 S) (h : Q (some (aI (sp_state S0 t))) (mk S)) : CT sc mX9_state [aR 0, aI t] (mk S) Q := by
  refine S_of (by decide) rfl ?_
  show G sc mX9_state 0 [some (aR 0), some (aI t)] [] (mk S) Q
  have hth := thB ha
  unfold sp_state at h
  rcases hT : isTh (thN S0) t with _ | _
  · rw [if_neg (by simp [hT])] at h
    refine G_aload_n (pc := 0) dX9_state_0 rfl rfl ?_
    refine G_iload_n (pc := 1) dX9_state_1 rfl rfl ?_
    refine S_callV (av := [_]) (pc := 2) (z := mX9_isThing) (ci := 8) dX9_state_2 zX9_isThing lX9_state_122 rfl (by first | rfl | assumption) rfl rfl (sX9_isThing hC.1 (by omega) ⟨_, rfl, ?_⟩)
    rw [hT]
    refine B_if_eq (pc := 5) (tgt := 20) dX9_state_5 (by decide) (fun c5 => ?_) (fun c5 => absurd c5 (by decide))
    refine G_iconst (pc := 20) (v := (-1)) dX9_state_20 (by decide) ?_
    refine S_iret (pc := 21) dX9_state_21 rfl ?_
    exact h
  · obtain ⟨k, rfl, hk, hk2⟩ := isTh_k hT (by omega)
    obtain ⟨k0, k1, k2, k3, k4, k5, k6⟩ := ThK_t k (by omega)
    have hc := (hC.2 k (by omega)).1 hk
    rw [if_pos hT, hk2] at h
    refine G_aload_n (pc := 0) dX9_state_0 rfl rfl ?_
    refine G_iload_n (pc := 1) dX9_state_1 rfl rfl ?_
    refine S_callV (av := [_]) (pc := 2) (z := mX9_isThing) (ci := 8) dX9_state_2 zX9_isThing lX9_state_122 rfl (by first | rfl | assumption) rfl rfl (sX9_isThing hC.1 (by omega) ⟨_, rfl, ?_⟩)
    rw [hT]
    refine B_if_eq (pc := 5) (tgt := 20) dX9_state_5 (by decide) (fun c5 => absurd c5 (by decide)) (fun c5 => ?_)
    refine G_aload_n (pc := 8) dX9_state_8 rfl rfl ?_
    refine S_getR (pc := 9) (b := 5) dX9_state_9 fX9_23 rfl rfl (by first | rfl | assumption) rfl rfl ?_
    refine G_iload_n (pc := 12) dX9_state_12 rfl rfl ?_
    refine N_aald (pc := 13) (t := 3) (n := 12) (b := 289 + 7 * k) dX9_state_13 (by first | rfl | assumption) (by first | rfl | assumption) (by decide) (by omega) rfl ?_
    refine S_getI (pc := 14) dX9_state_14 fX9_145 rfl (by first | rfl | assumption) rfl ?_
    rw [hc.2.2.1]
    refine G_goto (pc := 17) (tgt := 21) dX9_state_17 (by decide) ?_
    refine S_iret (pc := 21) dX9_state_21 rfl ?_
    exact h
set_option maxRecDepth 100000 in
set_option maxHeartbeats 4000000 in
theorem sX9_byteAt {S0 : ST} {t i : Int32} (ha : MIa S0) (hC : CTh S0 S) (h : Q (some (aI (sp_byteAt S0 t i))) (mk S)) : CT sc mX9_byteAt [aR 0, aI t, aI i] (mk S) Q := by
  refine S_of (by decide) rfl ?_
  show G sc mX9_byteAt 0 [some (aR 0), some (aI t), some (aI i)] [] (mk S) Q
  have hth := thB ha
  unfold sp_byteAt at h
  rcases hT : isTh (thN S0) t with _ | _
  · rw [if_neg (by simp [hT])] at h
    refine G_aload_n (pc := 0) dX9_byteAt_0 rfl rfl ?_
    refine G_iload_n (pc := 1) dX9_byteAt_1 rfl rfl ?_
    refine S_callV (av := [_]) (pc := 2) (z := mX9_isThing) (ci := 8) dX9_byteAt_2 zX9_isThing lX9_byteAt_122 rfl (by first | rfl | assumption) rfl rfl (sX9_isThing hC.1 (by omega) ⟨_, rfl, ?_⟩)
    rw [hT]
    refine B_if_eq (pc := 5) (tgt := 24) dX9_byteAt_5 (by decide) (fun c5 => ?_) (fun c5 => absurd c5 (by decide))
    refine G_iconst (pc := 24) (v := (-1)) dX9_byteAt_24 (by decide) ?_
    refine S_iret (pc := 25) dX9_byteAt_25 rfl ?_
    exact h
  · obtain ⟨k, rfl, hk, hk2⟩ := isTh_k hT (by omega)
    obtain ⟨k0, k1, k2, k3, k4, k5, k6⟩ := ThK_t k (by omega)
    have hc := (hC.2 k (by omega)).1 hk
    obtain ⟨z1, z2, z3, z4⟩ := ha.2 k hk
    rw [hk2] at h
    have e : tldR (lst (lnB S0 k) (szN S0 k)) i = if isTh (thN S0) (nI k) = true ∧ -1 ≤ i.toInt ∧ i.toInt < szN S0 k then (if i.toInt < 0 then nI (szN S0 k) else lnB S0 k i.toNatClampNeg) else -1 := by
      unfold tldR told
      rw [lst_len]
      by_cases c : -1 ≤ i.toInt
      · rw [if_neg (by omega)]
        by_cases c2 : i.toInt < 0
        · rw [if_pos c2, if_pos ⟨hT, by omega, by omega⟩, if_pos c2]
        · rw [if_neg c2]
          by_cases c3 : i.toInt < szN S0 k
          · rw [if_pos c3, if_pos ⟨hT, c, c3⟩, if_neg c2, lst_at (by omega), nI_clampT (n := i.toInt.toNat) (by omega)]
          · rw [if_neg c3, if_neg (fun q => c3 q.2.2)]
      · rw [if_pos (by omega), if_neg (fun q => c q.2.1)]
    rw [← e] at h
    refine G_aload_n (pc := 0) dX9_byteAt_0 rfl rfl ?_
    refine G_iload_n (pc := 1) dX9_byteAt_1 rfl rfl ?_
    refine S_callV (av := [_]) (pc := 2) (z := mX9_isThing) (ci := 8) dX9_byteAt_2 zX9_isThing lX9_byteAt_122 rfl (by first | rfl | assumption) rfl rfl (sX9_isThing hC.1 (by omega) ⟨_, rfl, ?_⟩)
    rw [hT]
    refine B_if_eq (pc := 5) (tgt := 24) dX9_byteAt_5 (by decide) (fun c5 => absurd c5 (by decide)) (fun c5 => ?_)
    refine G_aload_n (pc := 8) dX9_byteAt_8 rfl rfl ?_
    refine S_getR (pc := 9) (b := 5) dX9_byteAt_9 fX9_23 rfl rfl (by first | rfl | assumption) rfl rfl ?_
    refine G_iload_n (pc := 12) dX9_byteAt_12 rfl rfl ?_
    refine N_aald (pc := 13) (t := 3) (n := 12) (b := 289 + 7 * k) dX9_byteAt_13 (by first | rfl | assumption) (by first | rfl | assumption) (by decide) (by omega) rfl ?_
    refine S_getR (pc := 14) (b := 289 + 7 * k + 1) dX9_byteAt_14 fX9_125 rfl rfl (by first | rfl | assumption) rfl rfl ?_
    refine G_iload_n (pc := 17) dX9_byteAt_17 rfl rfl ?_
    refine S_callV (av := [_]) (pc := 18) (z := mX4_told) (ci := 3) dX9_byteAt_18 zX4_told lX9_byteAt_128 rfl (by first | rfl | assumption) rfl rfl (sX4_told ⟨k1, k2, rfl⟩ hc.1.rw (by rw [lst_len]; exact z3) ⟨_, rfl, ?_⟩)
    refine G_goto (pc := 21) (tgt := 25) dX9_byteAt_21 (by decide) ?_
    refine S_iret (pc := 25) dX9_byteAt_25 rfl ?_
    exact h
set_option maxRecDepth 100000 in
set_option maxHeartbeats 4000000 in
theorem sX9_place {S0 : ST} {t p : Int32} (ha : MIa S0) (hC : CTh S0 S) (h : Q (some (aI (sp_place S0 t p))) (mk S)) : CT sc mX9_place [aR 0, aI t, aI p] (mk S) Q := by
  refine S_of (by decide) rfl ?_
  show G sc mX9_place 0 [some (aR 0), some (aI t), some (aI p), none] [] (mk S) Q
  have hth := thB ha
  have z40 : (nI 40).toInt = 40 := rfl
  unfold sp_place at h
  rcases hT : isTh (thN S0) t with _ | _
  · rw [if_neg (by simp [hT])] at h
    refine G_aload_n (pc := 0) dX9_place_0 rfl rfl ?_
    refine G_iload_n (pc := 1) dX9_place_1 rfl rfl ?_
    refine S_callV (av := [_]) (pc := 2) (z := mX9_isThing) (ci := 8) dX9_place_2 zX9_isThing lX9_place_122 rfl (by first | rfl | assumption) rfl rfl (sX9_isThing hC.1 (by omega) ⟨_, rfl, ?_⟩)
    rw [hT]
    refine B_if_eq (pc := 5) (tgt := 18) dX9_place_5 (by decide) (fun c5 => ?_) (fun c5 => absurd c5 (by decide))
    refine G_iconst (pc := 18) (v := (-1)) dX9_place_18 (by decide) ?_
    refine S_iret (pc := 19) dX9_place_19 rfl ?_
    exact h
  · obtain ⟨k, rfl, hk, hk2⟩ := isTh_k hT (by omega)
    obtain ⟨k0, k1, k2, k3, k4, k5, k6⟩ := ThK_t k (by omega)
    have hc := (hC.2 k (by omega)).1 hk
    obtain ⟨z1, z2, z3, z4⟩ := ha.2 k hk
    rw [hk2] at h
    by_cases hp : 0 ≤ p.toInt ∧ p.toInt < 40
    · have ep : p = nI p.toInt.toNat := nI_ofT (by omega)
      have ec : p.toNatClampNeg = p.toInt.toNat := nI_clampT (by omega)
      rw [if_pos ⟨hT, hp⟩, ec] at h
      have hv := hc.2.1 p.toInt.toNat (by omega)
      rcases hpl : pl (lnB S0 k) (szN S0 k) p.toInt.toNat with _ | x
      · rw [hpl] at hv h
        refine G_aload_n (pc := 0) dX9_place_0 rfl rfl ?_
        refine G_iload_n (pc := 1) dX9_place_1 rfl rfl ?_
        refine S_callV (av := [_]) (pc := 2) (z := mX9_isThing) (ci := 8) dX9_place_2 zX9_isThing lX9_place_122 rfl (by first | rfl | assumption) rfl rfl (sX9_isThing hC.1 (by omega) ⟨_, rfl, ?_⟩)
        rw [hT]
        refine B_if_eq (pc := 5) (tgt := 18) dX9_place_5 (by decide) (fun c5 => absurd c5 (by decide)) (fun c5 => ?_)
        refine G_iload_n (pc := 8) dX9_place_8 rfl rfl ?_
        refine T_if_lt (pc := 9) (tgt := 18) dX9_place_9 (by decide) (fun c9 => absurd c9 (by omega)) (fun c9 => ?_)
        refine G_iload_n (pc := 12) dX9_place_12 rfl rfl ?_
        refine G_bipush (pc := 13) (v := nI 40) dX9_place_13 (by decide) ?_
        refine T_icmp_lt (pc := 15) (tgt := 20) dX9_place_15 (by decide) (fun c15 => ?_) (fun c15 => absurd c15 (by omega))
        refine G_aload_n (pc := 20) dX9_place_20 rfl rfl ?_
        refine S_getR (pc := 21) (b := 5) dX9_place_21 fX9_23 rfl rfl (by first | rfl | assumption) rfl rfl ?_
        refine G_iload_n (pc := 24) dX9_place_24 rfl rfl ?_
        refine N_aald (pc := 25) (t := 3) (n := 12) (b := 289 + 7 * k) dX9_place_25 (by first | rfl | assumption) (by first | rfl | assumption) (by decide) (by omega) rfl ?_
        refine S_getR (pc := 26) (b := 289 + 7 * k + 3) dX9_place_26 fX9_131 rfl rfl (by first | rfl | assumption) rfl rfl ?_
        refine G_iload_n (pc := 29) dX9_place_29 rfl rfl ?_
        rw [ep]
        refine N_iald (pc := 30) dX9_place_30 (by first | rfl | assumption) (by first | rfl | assumption) (by omega) ?_
        rw [hv]
        refine G_istore_n (pc := 31) dX9_place_31 rfl (by decide) rfl ?_
        refine G_iload_n (pc := 32) dX9_place_32 rfl rfl ?_
        refine T_if_ge (pc := 33) (tgt := 41) dX9_place_33 (by decide) (fun c33 => absurd c33 (by decide)) (fun c33 => ?_)
        refine G_bipush (pc := 36) (v := (-4)) dX9_place_36 (by decide) ?_
        refine G_goto (pc := 38) (tgt := 42) dX9_place_38 (by decide) ?_
        refine S_iret (pc := 42) dX9_place_42 rfl ?_
        exact h
      · rw [hpl] at hv h
        have hxl := pl_le hpl
        have hv : S.2.1 (289 + 7 * k + 3) p.toInt.toNat = nI x := hv
        refine G_aload_n (pc := 0) dX9_place_0 rfl rfl ?_
        refine G_iload_n (pc := 1) dX9_place_1 rfl rfl ?_
        refine S_callV (av := [_]) (pc := 2) (z := mX9_isThing) (ci := 8) dX9_place_2 zX9_isThing lX9_place_122 rfl (by first | rfl | assumption) rfl rfl (sX9_isThing hC.1 (by omega) ⟨_, rfl, ?_⟩)
        rw [hT]
        refine B_if_eq (pc := 5) (tgt := 18) dX9_place_5 (by decide) (fun c5 => absurd c5 (by decide)) (fun c5 => ?_)
        refine G_iload_n (pc := 8) dX9_place_8 rfl rfl ?_
        refine T_if_lt (pc := 9) (tgt := 18) dX9_place_9 (by decide) (fun c9 => absurd c9 (by omega)) (fun c9 => ?_)
        refine G_iload_n (pc := 12) dX9_place_12 rfl rfl ?_
        refine G_bipush (pc := 13) (v := nI 40) dX9_place_13 (by decide) ?_
        refine T_icmp_lt (pc := 15) (tgt := 20) dX9_place_15 (by decide) (fun c15 => ?_) (fun c15 => absurd c15 (by omega))
        refine G_aload_n (pc := 20) dX9_place_20 rfl rfl ?_
        refine S_getR (pc := 21) (b := 5) dX9_place_21 fX9_23 rfl rfl (by first | rfl | assumption) rfl rfl ?_
        refine G_iload_n (pc := 24) dX9_place_24 rfl rfl ?_
        refine N_aald (pc := 25) (t := 3) (n := 12) (b := 289 + 7 * k) dX9_place_25 (by first | rfl | assumption) (by first | rfl | assumption) (by decide) (by omega) rfl ?_
        refine S_getR (pc := 26) (b := 289 + 7 * k + 3) dX9_place_26 fX9_131 rfl rfl (by first | rfl | assumption) rfl rfl ?_
        refine G_iload_n (pc := 29) dX9_place_29 rfl rfl ?_
        rw [ep]
        refine N_iald (pc := 30) dX9_place_30 (by first | rfl | assumption) (by first | rfl | assumption) (by omega) ?_
        rw [hv]
        refine G_istore_n (pc := 31) dX9_place_31 rfl (by decide) rfl ?_
        refine G_iload_n (pc := 32) dX9_place_32 rfl rfl ?_
        refine N_if_ge (pc := 33) (tgt := 41) dX9_place_33 (by decide) (by omega) ?_
        refine G_iload_n (pc := 41) dX9_place_41 rfl rfl ?_
        refine S_iret (pc := 42) dX9_place_42 rfl ?_
        exact h
    · rw [if_neg (fun q => hp q.2)] at h
      refine G_aload_n (pc := 0) dX9_place_0 rfl rfl ?_
      refine G_iload_n (pc := 1) dX9_place_1 rfl rfl ?_
      refine S_callV (av := [_]) (pc := 2) (z := mX9_isThing) (ci := 8) dX9_place_2 zX9_isThing lX9_place_122 rfl (by first | rfl | assumption) rfl rfl (sX9_isThing hC.1 (by omega) ⟨_, rfl, ?_⟩)
      rw [hT]
      refine B_if_eq (pc := 5) (tgt := 18) dX9_place_5 (by decide) (fun c5 => absurd c5 (by decide)) (fun c5 => ?_)
      refine G_iload_n (pc := 8) dX9_place_8 rfl rfl ?_
      refine T_if_lt (pc := 9) (tgt := 18) dX9_place_9 (by decide) (fun c9 => ?_) (fun c9 => ?_)
      · skip
        refine G_iconst (pc := 18) (v := (-1)) dX9_place_18 (by decide) ?_
        refine S_iret (pc := 19) dX9_place_19 rfl ?_
        exact h
      · skip
        refine G_iload_n (pc := 12) dX9_place_12 rfl rfl ?_
        refine G_bipush (pc := 13) (v := nI 40) dX9_place_13 (by decide) ?_
        refine T_icmp_lt (pc := 15) (tgt := 20) dX9_place_15 (by decide) (fun c15 => absurd c15 (by omega)) (fun c15 => ?_)
        refine G_iconst (pc := 18) (v := (-1)) dX9_place_18 (by decide) ?_
        refine S_iret (pc := 19) dX9_place_19 rfl ?_
        exact h
set_option maxRecDepth 100000 in
set_option maxHeartbeats 4000000 in
theorem sX9_end {S0 : ST} {t i : Int32} (ha : MIa S0) (hb : MIb S0) (hC : CTh S0 S) (h : Q (some (aI (sp_end S0 t i))) (mk S)) : CT sc mX9_end [aR 0, aI t, aI i] (mk S) Q := by
  refine S_of (by decide) rfl ?_
  show G sc mX9_end 0 [some (aR 0), some (aI t), some (aI i), none] [] (mk S) Q
  have hth := thB ha
  have zm : (-1 : Int32).toInt = -1 := rfl
  unfold sp_end at h
  rcases hT : isTh (thN S0) t with _ | _
  · rw [if_neg (by simp [hT])] at h
    refine G_aload_n (pc := 0) dX9_end_0 rfl rfl ?_
    refine G_iload_n (pc := 1) dX9_end_1 rfl rfl ?_
    refine S_callV (av := [_]) (pc := 2) (z := mX9_isThing) (ci := 8) dX9_end_2 zX9_isThing lX9_end_122 rfl (by first | rfl | assumption) rfl rfl (sX9_isThing hC.1 (by omega) ⟨_, rfl, ?_⟩)
    rw [hT]
    refine B_if_eq (pc := 5) (tgt := 13) dX9_end_5 (by decide) (fun c5 => ?_) (fun c5 => absurd c5 (by decide))
    refine G_iconst (pc := 13) (v := (-1)) dX9_end_13 (by decide) ?_
    refine S_iret (pc := 14) dX9_end_14 rfl ?_
    exact h
  · obtain ⟨k, rfl, hk, hk2⟩ := isTh_k hT (by omega)
    obtain ⟨k0, k1, k2, k3, k4, k5, k6⟩ := ThK_t k (by omega)
    have hc := (hC.2 k (by omega)).1 hk
    obtain ⟨⟨b1, b2⟩, ⟨b3, b4⟩, b5, b6⟩ := hb k hk
    rw [hk2] at h
    by_cases hi : -1 ≤ i.toInt
    · rw [if_pos ⟨hT, hi⟩] at h
      by_cases hs : stN S0 k = 1 ∨ stN S0 k = 2
      · have he := hc.2.2.2.1 hs
        rw [if_pos hs] at h
        have e : tldR (lst (enB S0 k) (esN S0 k)) i = if i.toInt < 0 then nI (esN S0 k) else if i.toInt < esN S0 k then enB S0 k i.toNatClampNeg else -1 := by
          unfold tldR told
          rw [lst_len, if_neg (by omega)]
          by_cases c2 : i.toInt < 0
          · rw [if_pos c2, if_pos c2]
          · rw [if_neg c2, if_neg c2]
            by_cases c3 : i.toInt < esN S0 k
            · rw [if_pos c3, if_pos c3, lst_at (by omega), nI_clampT (n := i.toInt.toNat) (by omega)]
            · rw [if_neg c3, if_neg c3]
        have h : Q (some (aI (if i.toInt < 0 then nI (esN S0 k) else if i.toInt < esN S0 k then enB S0 k i.toNatClampNeg else -1))) (mk S) := h
        rw [← e] at h
        refine G_aload_n (pc := 0) dX9_end_0 rfl rfl ?_
        refine G_iload_n (pc := 1) dX9_end_1 rfl rfl ?_
        refine S_callV (av := [_]) (pc := 2) (z := mX9_isThing) (ci := 8) dX9_end_2 zX9_isThing lX9_end_122 rfl (by first | rfl | assumption) rfl rfl (sX9_isThing hC.1 (by omega) ⟨_, rfl, ?_⟩)
        rw [hT]
        refine B_if_eq (pc := 5) (tgt := 13) dX9_end_5 (by decide) (fun c5 => absurd c5 (by decide)) (fun c5 => ?_)
        refine G_iload_n (pc := 8) dX9_end_8 rfl rfl ?_
        refine G_iconst (pc := 9) (v := (-1)) dX9_end_9 (by decide) ?_
        refine T_icmp_ge (pc := 10) (tgt := 15) dX9_end_10 (by decide) (fun c10 => ?_) (fun c10 => absurd c10 (by omega))
        refine G_aload_n (pc := 15) dX9_end_15 rfl rfl ?_
        refine S_getR (pc := 16) (b := 5) dX9_end_16 fX9_23 rfl rfl (by first | rfl | assumption) rfl rfl ?_
        refine G_iload_n (pc := 19) dX9_end_19 rfl rfl ?_
        refine N_aald (pc := 20) (t := 3) (n := 12) (b := 289 + 7 * k) dX9_end_20 (by first | rfl | assumption) (by first | rfl | assumption) (by decide) (by omega) rfl ?_
        refine G_astore_n (pc := 21) dX9_end_21 rfl (by decide) rfl ?_
        refine G_aload_n (pc := 22) dX9_end_22 rfl rfl ?_
        refine S_getI (pc := 23) dX9_end_23 fX9_145 rfl (by first | rfl | assumption) rfl ?_
        rw [hc.2.2.1]
        refine G_iconst (pc := 26) (v := nI 2) dX9_end_26 (by decide) ?_
        refine N_icmp_eq (pc := 27) (tgt := 38) dX9_end_27 (by decide) (by omega) (fun c27 => ?_) (fun c27 => ?_)
        · skip
          refine G_aload_n (pc := 38) dX9_end_38 rfl rfl ?_
          refine S_getR (pc := 39) (b := 289 + 7 * k + 4) dX9_end_39 fX9_199 rfl rfl (by first | rfl | assumption) rfl rfl ?_
          refine G_iload_n (pc := 42) dX9_end_42 rfl rfl ?_
          refine S_callV (av := [_]) (pc := 43) (z := mX4_told) (ci := 3) dX9_end_43 zX4_told lX9_end_128 rfl (by first | rfl | assumption) rfl rfl (sX4_told ⟨k4, k5, rfl⟩ he.rw (by rw [lst_len]; exact b4) ⟨_, rfl, ?_⟩)
          refine G_goto (pc := 46) (tgt := 51) dX9_end_46 (by decide) ?_
          refine S_iret (pc := 51) dX9_end_51 rfl ?_
          first | exact h | omega
        · skip
          refine G_aload_n (pc := 30) dX9_end_30 rfl rfl ?_
          refine S_getI (pc := 31) dX9_end_31 fX9_145 rfl (by first | rfl | assumption) rfl ?_
          rw [hc.2.2.1]
          refine G_iconst (pc := 34) (v := nI 1) dX9_end_34 (by decide) ?_
          refine N_icmp_ne (pc := 35) (tgt := 49) dX9_end_35 (by decide) (by omega) (fun c35 => ?_) (fun c35 => ?_)
          · skip
            refine G_bipush (pc := 49) (v := (-4)) dX9_end_49 (by decide) ?_
            refine S_iret (pc := 51) dX9_end_51 rfl ?_
            first | exact h | omega
          · skip
            refine G_aload_n (pc := 38) dX9_end_38 rfl rfl ?_
            refine S_getR (pc := 39) (b := 289 + 7 * k + 4) dX9_end_39 fX9_199 rfl rfl (by first | rfl | assumption) rfl rfl ?_
            refine G_iload_n (pc := 42) dX9_end_42 rfl rfl ?_
            refine S_callV (av := [_]) (pc := 43) (z := mX4_told) (ci := 3) dX9_end_43 zX4_told lX9_end_128 rfl (by first | rfl | assumption) rfl rfl (sX4_told ⟨k4, k5, rfl⟩ he.rw (by rw [lst_len]; exact b4) ⟨_, rfl, ?_⟩)
            refine G_goto (pc := 46) (tgt := 51) dX9_end_46 (by decide) ?_
            refine S_iret (pc := 51) dX9_end_51 rfl ?_
            first | exact h | omega
      · rw [if_neg hs] at h
        refine G_aload_n (pc := 0) dX9_end_0 rfl rfl ?_
        refine G_iload_n (pc := 1) dX9_end_1 rfl rfl ?_
        refine S_callV (av := [_]) (pc := 2) (z := mX9_isThing) (ci := 8) dX9_end_2 zX9_isThing lX9_end_122 rfl (by first | rfl | assumption) rfl rfl (sX9_isThing hC.1 (by omega) ⟨_, rfl, ?_⟩)
        rw [hT]
        refine B_if_eq (pc := 5) (tgt := 13) dX9_end_5 (by decide) (fun c5 => absurd c5 (by decide)) (fun c5 => ?_)
        refine G_iload_n (pc := 8) dX9_end_8 rfl rfl ?_
        refine G_iconst (pc := 9) (v := (-1)) dX9_end_9 (by decide) ?_
        refine T_icmp_ge (pc := 10) (tgt := 15) dX9_end_10 (by decide) (fun c10 => ?_) (fun c10 => absurd c10 (by omega))
        refine G_aload_n (pc := 15) dX9_end_15 rfl rfl ?_
        refine S_getR (pc := 16) (b := 5) dX9_end_16 fX9_23 rfl rfl (by first | rfl | assumption) rfl rfl ?_
        refine G_iload_n (pc := 19) dX9_end_19 rfl rfl ?_
        refine N_aald (pc := 20) (t := 3) (n := 12) (b := 289 + 7 * k) dX9_end_20 (by first | rfl | assumption) (by first | rfl | assumption) (by decide) (by omega) rfl ?_
        refine G_astore_n (pc := 21) dX9_end_21 rfl (by decide) rfl ?_
        refine G_aload_n (pc := 22) dX9_end_22 rfl rfl ?_
        refine S_getI (pc := 23) dX9_end_23 fX9_145 rfl (by first | rfl | assumption) rfl ?_
        rw [hc.2.2.1]
        refine G_iconst (pc := 26) (v := nI 2) dX9_end_26 (by decide) ?_
        refine N_icmp_eq (pc := 27) (tgt := 38) dX9_end_27 (by decide) (by omega) (fun c27 => absurd c27 (by omega)) (fun c27 => ?_)
        refine G_aload_n (pc := 30) dX9_end_30 rfl rfl ?_
        refine S_getI (pc := 31) dX9_end_31 fX9_145 rfl (by first | rfl | assumption) rfl ?_
        rw [hc.2.2.1]
        refine G_iconst (pc := 34) (v := nI 1) dX9_end_34 (by decide) ?_
        refine N_icmp_ne (pc := 35) (tgt := 49) dX9_end_35 (by decide) (by omega) (fun c35 => ?_) (fun c35 => absurd c35 (by omega))
        refine G_bipush (pc := 49) (v := (-4)) dX9_end_49 (by decide) ?_
        refine S_iret (pc := 51) dX9_end_51 rfl ?_
        exact h
    · rw [if_neg (fun q => hi q.2)] at h
      refine G_aload_n (pc := 0) dX9_end_0 rfl rfl ?_
      refine G_iload_n (pc := 1) dX9_end_1 rfl rfl ?_
      refine S_callV (av := [_]) (pc := 2) (z := mX9_isThing) (ci := 8) dX9_end_2 zX9_isThing lX9_end_122 rfl (by first | rfl | assumption) rfl rfl (sX9_isThing hC.1 (by omega) ⟨_, rfl, ?_⟩)
      rw [hT]
      refine B_if_eq (pc := 5) (tgt := 13) dX9_end_5 (by decide) (fun c5 => absurd c5 (by decide)) (fun c5 => ?_)
      refine G_iload_n (pc := 8) dX9_end_8 rfl rfl ?_
      refine G_iconst (pc := 9) (v := (-1)) dX9_end_9 (by decide) ?_
      refine T_icmp_ge (pc := 10) (tgt := 15) dX9_end_10 (by decide) (fun c10 => absurd c10 (by omega)) (fun c10 => ?_)
      refine G_iconst (pc := 13) (v := (-1)) dX9_end_13 (by decide) ?_
      refine S_iret (pc := 14) dX9_end_14 rfl ?_
      exact h
set_option maxRecDepth 100000 in
set_option maxHeartbeats 4000000 in
theorem sX9_made {S0 : ST} {t c i : Int32} (ha : MIa S0) (hC : CTh S0 S) (h : ∀ S', Fr scX scA S S' → Q (some (aI (sp_made S0 t c i))) (mk S')) : CT sc mX9_made [aR 0, aI t, aI c, aI i] (mk S) Q := by
  refine S_of (by decide) rfl ?_
  show G sc mX9_made 0 [some (aR 0), some (aI t), some (aI c), some (aI i)] [] (mk S) Q
  have hth := thB ha
  have zm : (-1 : Int32).toInt = -1 := rfl
  unfold sp_made at h
  have bad : ¬ (isTh (thN S0) t = true ∧ isCutB c = true ∧ -1 ≤ i.toInt) → Q (some (aI (-1))) (mk S) := fun q => by
    have := h S Fr.rf
    rw [if_neg q] at this
    exact this
  rcases hT : isTh (thN S0) t with _ | _
  · skip
    refine G_aload_n (pc := 0) dX9_made_0 rfl rfl ?_
    refine G_iload_n (pc := 1) dX9_made_1 rfl rfl ?_
    refine S_callV (av := [_]) (pc := 2) (z := mX9_isThing) (ci := 8) dX9_made_2 zX9_isThing lX9_made_122 rfl (by first | rfl | assumption) rfl rfl (sX9_isThing hC.1 (by omega) ⟨_, rfl, ?_⟩)
    rw [hT]
    refine B_if_eq (pc := 5) (tgt := 20) dX9_made_5 (by decide) (fun c5 => ?_) (fun c5 => absurd c5 (by decide))
    refine G_iconst (pc := 20) (v := (-1)) dX9_made_20 (by decide) ?_
    refine S_iret (pc := 21) dX9_made_21 rfl ?_
    exact bad (by simp [hT])
  · obtain ⟨k, rfl, hk, hk2⟩ := isTh_k hT (by omega)
    have hK := ThK_t k (by omega)
    obtain ⟨k0, k1, k2, k3, k4, k5, k6⟩ := id hK
    have hc := (hC.2 k (by omega)).1 hk
    obtain ⟨z1, z2, z3, z4⟩ := ha.2 k hk
    rcases hcu : isCutB c with _ | _
    · skip
      refine G_aload_n (pc := 0) dX9_made_0 rfl rfl ?_
      refine G_iload_n (pc := 1) dX9_made_1 rfl rfl ?_
      refine S_callV (av := [_]) (pc := 2) (z := mX9_isThing) (ci := 8) dX9_made_2 zX9_isThing lX9_made_122 rfl (by first | rfl | assumption) rfl rfl (sX9_isThing hC.1 (by omega) ⟨_, rfl, ?_⟩)
      rw [hT]
      refine B_if_eq (pc := 5) (tgt := 20) dX9_made_5 (by decide) (fun c5 => absurd c5 (by decide)) (fun c5 => ?_)
      refine G_iload_n (pc := 8) dX9_made_8 rfl rfl ?_
      refine S_callS (av := [_]) (pc := 9) (z := mX9_isCut) dX9_made_9 zX9_isCut lX9_made_134 rfl (sX9_isCut ⟨_, rfl, ?_⟩)
      rw [hcu]
      refine B_if_eq (pc := 12) (tgt := 20) dX9_made_12 (by decide) (fun c12 => ?_) (fun c12 => absurd c12 (by decide))
      refine G_iconst (pc := 20) (v := (-1)) dX9_made_20 (by decide) ?_
      refine S_iret (pc := 21) dX9_made_21 rfl ?_
      exact bad (by simp [hcu])
    · by_cases hi : -1 ≤ i.toInt
      · have hcu2 := of_decide_eq_true hcu
        have ec : c = nI c.toInt.toNat := nI_ofT (by omega)
        have ecc : c.toNatClampNeg = c.toInt.toNat := nI_clampT (by omega)
        have F0 : Fr scX scA S (upX S 3 1 (nI 0)) := Fr.upX ⟨rfl, rfl⟩
        have hh : ∀ S', Fr scX scA S S' → Q (some (aI (match pcL (lnB S0 k) (szN S0 k) c.toInt.toNat with
            | some l => told l i
            | none => -4))) (mk S') := fun S' f => by
          have := h S' f
          rw [if_pos ⟨hT, hcu, hi⟩, hk2, ecc] at this
          exact this
        have hcn : c.toInt.toNat < 4800 := by omega
        generalize c.toInt.toNat = cn at ec hh hcn
        subst ec
        refine G_aload_n (pc := 0) dX9_made_0 rfl rfl ?_
        refine G_iload_n (pc := 1) dX9_made_1 rfl rfl ?_
        refine S_callV (av := [_]) (pc := 2) (z := mX9_isThing) (ci := 8) dX9_made_2 zX9_isThing lX9_made_122 rfl (by first | rfl | assumption) rfl rfl (sX9_isThing hC.1 (by omega) ⟨_, rfl, ?_⟩)
        rw [hT]
        refine B_if_eq (pc := 5) (tgt := 20) dX9_made_5 (by decide) (fun c5 => absurd c5 (by decide)) (fun c5 => ?_)
        refine G_iload_n (pc := 8) dX9_made_8 rfl rfl ?_
        refine S_callS (av := [_]) (pc := 9) (z := mX9_isCut) dX9_made_9 zX9_isCut lX9_made_134 rfl (sX9_isCut ⟨_, rfl, ?_⟩)
        rw [hcu]
        refine B_if_eq (pc := 12) (tgt := 20) dX9_made_12 (by decide) (fun c12 => absurd c12 (by decide)) (fun c12 => ?_)
        refine G_iload_n (pc := 15) dX9_made_15 rfl rfl ?_
        refine G_iconst (pc := 16) (v := (-1)) dX9_made_16 (by decide) ?_
        refine T_icmp_ge (pc := 17) (tgt := 22) dX9_made_17 (by decide) (fun c17 => ?_) (fun c17 => absurd c17 (by omega))
        refine G_aload_n (pc := 22) dX9_made_22 rfl rfl ?_
        refine S_getR (pc := 23) (b := 3) dX9_made_23 fX9_18 rfl rfl (by first | rfl | assumption) rfl rfl ?_
        refine S_callV (av := []) (pc := 26) (z := mX4_clear) (ci := 3) dX9_made_26 zX4_clear lX9_made_102 rfl (by first | rfl | assumption) rfl rfl (sX4_clear RwK_s ⟨_, rfl, ?_⟩)
        refine G_aload_n (pc := 29) dX9_made_29 rfl rfl ?_
        refine S_getR (pc := 30) (b := 5) dX9_made_30 fX9_23 rfl rfl (by first | rfl | assumption) rfl rfl ?_
        refine G_iload_n (pc := 33) dX9_made_33 rfl rfl ?_
        refine N_aald (pc := 34) (t := 3) (n := 12) (b := 289 + 7 * k) dX9_made_34 (by first | rfl | assumption) (by first | rfl | assumption) (by decide) (by omega) rfl ?_
        refine G_iload_n (pc := 35) dX9_made_35 rfl rfl ?_
        refine G_aload_n (pc := 36) dX9_made_36 rfl rfl ?_
        refine S_getR (pc := 37) (b := 3) dX9_made_37 fX9_18 rfl rfl (by first | rfl | assumption) rfl rfl ?_
        refine S_callV (av := [_, _]) (pc := 40) (z := mX8_cutInto) (ci := 7) dX9_made_40 zX8_cutInto lX9_made_137 rfl (by first | rfl | assumption) rfl rfl (sX8_cutInto hK RwK_s (by omega) z3 hcn (hc.1.fr F0 (by omega) (by omega)) (hc.2.1.fr F0 (by omega)) z4 RowIs.nil (by simp) (fun S1 q x1 x2 x3 => ⟨_, rfl, ?_⟩) (fun x1 => ⟨_, rfl, ?_⟩))
        · skip
          have x3 : RwIs S1 3 q := x3
          have hql : q.length ≤ 16 := by have := pc_len (Or.inl hcn) z3 x1; rw [if_neg (by omega)] at this; exact this
          have hS1 : Fr scX scA S S1 := F0.tr x2
          have h := hh S1 hS1
          rw [x1] at h
          refine B_if_eq (pc := 43) (tgt := 57) dX9_made_43 (by decide) (fun c43 => absurd c43 (by decide)) (fun c43 => ?_)
          refine G_aload_n (pc := 46) dX9_made_46 rfl rfl ?_
          refine S_getR (pc := 47) (b := 3) dX9_made_47 fX9_18 rfl rfl (by first | rfl | assumption) rfl rfl ?_
          refine G_iload_n (pc := 50) dX9_made_50 rfl rfl ?_
          refine S_callV (av := [_]) (pc := 51) (z := mX4_told) (ci := 3) dX9_made_51 zX4_told lX9_made_128 rfl (by first | rfl | assumption) rfl rfl (sX4_told RwK_s x3 (by omega) ⟨_, rfl, ?_⟩)
          rw [tldR_ge hi]
          refine G_goto (pc := 54) (tgt := 59) dX9_made_54 (by decide) ?_
          refine S_iret (pc := 59) dX9_made_59 rfl ?_
          exact h
        have h := hh _ F0
        rw [x1] at h
        refine B_if_eq (pc := 43) (tgt := 57) dX9_made_43 (by decide) (fun c43 => ?_) (fun c43 => absurd c43 (by decide))
        refine G_bipush (pc := 57) (v := (-4)) dX9_made_57 (by decide) ?_
        refine S_iret (pc := 59) dX9_made_59 rfl ?_
        exact h
      · skip
        refine G_aload_n (pc := 0) dX9_made_0 rfl rfl ?_
        refine G_iload_n (pc := 1) dX9_made_1 rfl rfl ?_
        refine S_callV (av := [_]) (pc := 2) (z := mX9_isThing) (ci := 8) dX9_made_2 zX9_isThing lX9_made_122 rfl (by first | rfl | assumption) rfl rfl (sX9_isThing hC.1 (by omega) ⟨_, rfl, ?_⟩)
        rw [hT]
        refine B_if_eq (pc := 5) (tgt := 20) dX9_made_5 (by decide) (fun c5 => absurd c5 (by decide)) (fun c5 => ?_)
        refine G_iload_n (pc := 8) dX9_made_8 rfl rfl ?_
        refine S_callS (av := [_]) (pc := 9) (z := mX9_isCut) dX9_made_9 zX9_isCut lX9_made_134 rfl (sX9_isCut ⟨_, rfl, ?_⟩)
        rw [hcu]
        refine B_if_eq (pc := 12) (tgt := 20) dX9_made_12 (by decide) (fun c12 => absurd c12 (by decide)) (fun c12 => ?_)
        refine G_iload_n (pc := 15) dX9_made_15 rfl rfl ?_
        refine G_iconst (pc := 16) (v := (-1)) dX9_made_16 (by decide) ?_
        refine T_icmp_ge (pc := 17) (tgt := 22) dX9_made_17 (by decide) (fun c17 => absurd c17 (by omega)) (fun c17 => ?_)
        refine G_iconst (pc := 20) (v := (-1)) dX9_made_20 (by decide) ?_
        refine S_iret (pc := 21) dX9_made_21 rfl ?_
        exact bad (fun q => hi q.2.2)
end C24
