/-! the class: Fit.addCuts -/
theorem bit_ex : ∀ v : Nat, v < 64 → ¬ v = 0 → v.testBit 0 = true ∨ v.testBit 1 = true ∨ v.testBit 2 = true ∨ v.testBit 3 = true ∨ v.testBit 4 = true ∨ v.testBit 5 = true := by decide
theorem bit_ex2 {v : Nat} (h : v < 64) (h0 : ¬ v = 0) : ∃ i, i < 6 ∧ v.testBit i = true := by
  rcases bit_ex v h h0 with q | q | q | q | q | q
  · exact ⟨0, by omega, q⟩
  · exact ⟨1, by omega, q⟩
  · exact ⟨2, by omega, q⟩
  · exact ⟨3, by omega, q⟩
  · exact ⟨4, by omega, q⟩
  · exact ⟨5, by omega, q⟩
theorem tbE {v i : Nat} : v / 2 ^ i % 2 = 1 ↔ v.testBit i = true := by
  rw [Nat.testBit_eq_decide_div_mod_eq, decide_eq_true_eq]
def ffL (S : ST) (ts : List Nat) (F : List (Nat × Nat)) : List (Nat × Nat) := F.filter (fun q => !(q.2 == fuN S ts))
def whL (S : ST) (ts : List Nat) (F : List (Nat × Nat)) : List Nat := (F.filter (fun q => q.2 == fuN S ts)).map Prod.fst
/-- the pieces that Fit takes as last ones -/
def okB (S : ST) (ts : List Nat) (q : Nat × Nat) : Bool := if q.1 < 16777216 then !(q.2 == fuN S ts) else decide (q.1 / 16777216 < mnG S ts 12)
def lbL (S : ST) (ts : List Nat) (B : List (Nat × Nat)) : List (Nat × Nat) := (B.filter (okB S ts)).map (fun q => (q.1, fuN S ts - q.2))
theorem ffL_y {S : ST} {ts : List Nat} {F : List (Nat × Nat)} {p L : Nat} (h : L = fuN S ts) : ffL S ts (F ++ [(p, L)]) = ffL S ts F := by
  unfold ffL
  rw [List.filter_append]
  simp [h]
theorem ffL_n {S : ST} {ts : List Nat} {F : List (Nat × Nat)} {p L : Nat} (h : ¬ L = fuN S ts) : ffL S ts (F ++ [(p, L)]) = ffL S ts F ++ [(p, L)] := by
  unfold ffL
  rw [List.filter_append]
  simp [h]
theorem whL_y {S : ST} {ts : List Nat} {F : List (Nat × Nat)} {p L : Nat} (h : L = fuN S ts) : whL S ts (F ++ [(p, L)]) = whL S ts F ++ [p] := by
  unfold whL
  rw [List.filter_append]
  simp [h]
theorem whL_n {S : ST} {ts : List Nat} {F : List (Nat × Nat)} {p L : Nat} (h : ¬ L = fuN S ts) : whL S ts (F ++ [(p, L)]) = whL S ts F := by
  unfold whL
  rw [List.filter_append]
  simp [h]
theorem lbL_y {S : ST} {ts : List Nat} {F : List (Nat × Nat)} {p L : Nat} (h : okB S ts (p, L) = true) : lbL S ts (F ++ [(p, L)]) = lbL S ts F ++ [(p, fuN S ts - L)] := by
  unfold lbL
  rw [List.filter_append]
  simp [h]
theorem lbL_n {S : ST} {ts : List Nat} {F : List (Nat × Nat)} {p L : Nat} (h : okB S ts (p, L) = false) : lbL S ts (F ++ [(p, L)]) = lbL S ts F := by
  unfold lbL
  rw [List.filter_append]
  simp [h]
theorem okB_cut {S : ST} {ts : List Nat} {p L : Nat} (h : p < 16777216) : okB S ts (p, L) = true ↔ ¬ L = fuN S ts := by
  unfold okB
  rw [if_pos h]
  simp
theorem ffL_len {S : ST} {ts : List Nat} {F : List (Nat × Nat)} : (ffL S ts F).length ≤ F.length := List.length_filter_le _ _
theorem whL_len {S : ST} {ts : List Nat} {F : List (Nat × Nat)} : (whL S ts F).length ≤ F.length := by
  unfold whL
  rw [List.length_map]
  exact List.length_filter_le _ _
theorem lbL_len {S : ST} {ts : List Nat} {F : List (Nat × Nat)} : (lbL S ts F).length ≤ F.length := by
  unfold lbL
  rw [List.length_map]
  exact List.length_filter_le _ _
/-- what Fit holds of pieces -/
def FtP (S0 S : ST) (ts : List Nat) (F B : List (Nat × Nat)) (g : Nat) : Prop := FsIs S (ffL S0 ts F) ∧ WhIs S (whL S0 ts F) ∧ LaIs S (lbL S0 ts B) g
theorem fuN_lt {S : ST} {ts : List Nat} (h : TsOk S ts) : fuN S ts < 65536 := pkd_lt4 h.1 (fun t ht => by have := (h.2 t ht).2.2.2.2.2; omega)
abbrev acX (a j : Nat) : Prop := afX a j ∨ laX a j
abbrev acA (a : Nat) : Prop := afA a ∨ laA a
theorem ac_af {S S' : ST} (h : Fr afX afA S S') : Fr acX acA S S' := h.mono (fun a j q => Or.inl q) (fun a q => Or.inl q)
theorem ac_la {S S' : ST} (h : Fr laX laA S S') : Fr acX acA S S' := h.mono (fun a j q => Or.inr q) (fun a q => Or.inr q)
theorem ft_ac {S S' : ST} (h : Fr acX acA S S') : Fr ftX ftA S S' := h.mono (fun a j q => by rcases q with ⟨q, z⟩ | ⟨q, z⟩; left; exact ⟨q, by omega⟩; right; omega) (fun a q => by rcases q with q | q <;> (constructor <;> omega))
section C9
variable {sc : SC} {S : ST} {Q : Option AV → HM → Prop}
set_option maxRecDepth 100000 in
set_option maxHeartbeats 4000000 in
theorem addCuts_lp {S0 : ST} {fr to z : Nat} {Pf : Nat → Prop} (hfr : fr < 40) (hto : to < 40) (hz : z ≤ 4) (hc : S.1 6 1 = nI z) :
    ∀ (r : List Nat) (k v acc : Nat) (P : Nat → Prop) (o6 : Option AV), k + r.length = z → (∀ i, i < r.length → S.2.2 (k + i) = some (289 + 7 * r.getD i 0)) → (∀ t ∈ r, t < 12 ∧ (szN S0 t ≤ 16 ∧ esN S0 t ≤ 12) ∧ PlIs S (289 + 7 * t) (lnB S0 t) (szN S0 t) ∧ SpIs S (289 + 7 * t) (lnB S0 t) (szN S0 t) (enB S0 t) (esN S0 t)) → v < 64 ∧ ¬ v = 0 → acc < 2 ^ (4 * k) → (∀ i, i < 6 → (v.testBit i = true ↔ P i)) → (∀ i, i < 6 → (Pf i ↔ P i ∧ ∀ t ∈ r, bitT S0 fr to i t)) →
      ((∀ i, i < 6 → ¬ Pf i) → Q none (mk S)) →
      (∀ v' (o6 : Option AV), v' < 64 ∧ ¬ v' = 0 → (∀ i, i < 6 → (v'.testBit i = true ↔ Pf i)) → G sc mX0_addCuts 73 [some (aR 6), some (aI (nI fr)), some (aI (nI to)), some (aI (nI v')), some (aI (nI (acc + pkd (wdN S0 fr to) r * 2 ^ (4 * k)))), some (aI (nI z)), o6] [] (mk S) Q) →
      G sc mX0_addCuts 9 [some (aR 6), some (aI (nI fr)), some (aI (nI to)), some (aI (nI v)), some (aI (nI acc)), some (aI (nI k)), o6] [] (mk S) Q := by
  intro r
  induction r with
  | nil =>
    intro k v acc P o6 hk _ _ hv hacc hP hPf hno h
    have hk : k + 0 = z := hk
    have ek : k = z := by omega
    subst ek
    refine G_iload (pc := 9) dX0_addCuts_9 rfl ?_
    refine G_aload_n (pc := 11) dX0_addCuts_11 rfl rfl ?_
    refine S_getI (pc := 12) dX0_addCuts_12 fX0_17 rfl (by first | rfl | assumption) rfl ?_
    rw [hc]
    refine N_icmp_ge (pc := 15) (tgt := 73) dX0_addCuts_15 (by decide) (by omega) (fun c15 => ?_) (fun c15 => absurd c15 (by omega))
    have := h v o6 hv (fun i hi => by rw [hP i hi, hPf i hi]; exact ⟨fun q => ⟨q, fun t ht => by cases ht⟩, fun q => q.1⟩)
    rw [show acc + pkd (wdN S0 fr to) [] * 2 ^ (4 * k) = acc by simp [pkd]] at this
    exact this
  | cons t r ih =>
    intro k v acc P o6 hk hs ht hv hacc hP hPf hno h
    have hk : k + (r.length + 1) = z := hk
    obtain ⟨t1, t2, hp, hsp⟩ := ht t List.mem_cons_self
    have hK := ThK_t t t1
    have hK0 := hK
    obtain ⟨k0, k1, k2, k3, k4, k5, k6⟩ := hK
    have hsk : S.2.2 k = some (289 + 7 * t) := hs 0 (by simp)
    have hp4 := p16_le (show k ≤ 3 by omega)
    have K35 : ∀ w, w < 64 → (∀ i, i < 6 → (w.testBit i = true ↔ bitT S0 fr to i t)) → G sc mX0_addCuts 35 [some (aR 6), some (aI (nI fr)), some (aI (nI to)), some (aI (nI v)), some (aI (nI acc)), some (aI (nI k)), some (aR (289 + 7 * t))] [aI (nI w), aI (nI v)] (mk S) Q := by
      intro w hw hwb
      have hvw : v &&& w < 64 := Nat.and_lt_two_pow (n := 6) v hw
      have hbt : ∀ i, i < 6 → ((v &&& w).testBit i = true ↔ P i ∧ bitT S0 fr to i t) := fun i hi => by rw [Nat.testBit_and, Bool.and_eq_true, hP i hi, hwb i hi]
      have hPf2 : ∀ i, i < 6 → (Pf i ↔ (P i ∧ bitT S0 fr to i t) ∧ ∀ t ∈ r, bitT S0 fr to i t) := fun i hi => by
        rw [hPf i hi]
        constructor
        · exact fun q => ⟨⟨q.1, q.2 t List.mem_cons_self⟩, fun x hx => q.2 x (List.mem_cons_of_mem _ hx)⟩
        · intro q
          refine ⟨q.1.1, fun x hx => ?_⟩
          rcases List.mem_cons.mp hx with e | e
          · subst e; exact q.1.2
          · exact q.2 x e
      refine G_iand (pc := 35) dX0_addCuts_35 ?_
      rw [nI_and]
      refine G_istore_n (pc := 36) dX0_addCuts_36 rfl (by decide) rfl ?_
      refine G_iload_n (pc := 37) dX0_addCuts_37 rfl rfl ?_
      refine N_if_ne (pc := 38) (tgt := 42) dX0_addCuts_38 (by decide) (by omega) (fun c38 => ?_) (fun c38 => ?_)
      · skip
        obtain ⟨i0, i1, i2⟩ := bit_ex2 hvw c38
        have hb0 := ((hbt i0 i1).mp i2).2
        have hwd := cut_wl (tn := 0) hfr hto (by omega) i1 hb0
        obtain ⟨x, y, hx, hy, hxy⟩ := hb0
        have hx' := hp fr hfr
        have hy' := hp to hto
        rw [hx] at hx'
        rw [hy] at hy'
        have hx' : S.2.1 (289 + 7 * t + 3) fr = nI x := hx'
        have hy' : S.2.1 (289 + 7 * t + 3) to = nI y := hy'
        have hyn := pl_le hy
        have hwe : wdN S0 fr to t = y - x := by unfold wdN; rw [hx, hy]; rfl
        have hm1 : (y - x) * 2 ^ (4 * k) ≤ 16 * 2 ^ (4 * k) := Nat.mul_le_mul_right _ (by omega)
        have hlt : acc + (y - x) * 2 ^ (4 * k) < 2 ^ (4 * (k + 1)) := p16_lt hacc (by omega)
        refine G_iload (pc := 42) dX0_addCuts_42 rfl ?_
        refine G_aload (pc := 44) dX0_addCuts_44 rfl ?_
        refine S_getR (pc := 46) (b := 289 + 7 * t + 3) dX0_addCuts_46 fX0_102 rfl rfl (by first | rfl | assumption) rfl rfl ?_
        refine G_iload_n (pc := 49) dX0_addCuts_49 rfl rfl ?_
        refine N_iald (pc := 50) dX0_addCuts_50 (by first | rfl | assumption) (by first | rfl | assumption) (by omega) ?_
        rw [hy']
        refine G_aload (pc := 51) dX0_addCuts_51 rfl ?_
        refine S_getR (pc := 53) (b := 289 + 7 * t + 3) dX0_addCuts_53 fX0_102 rfl rfl (by first | rfl | assumption) rfl rfl ?_
        refine G_iload_n (pc := 56) dX0_addCuts_56 rfl rfl ?_
        refine N_iald (pc := 57) dX0_addCuts_57 (by first | rfl | assumption) (by first | rfl | assumption) (by omega) ?_
        rw [hx']
        refine N_isub (pc := 58) dX0_addCuts_58 (by omega) ?_
        refine G_iconst (pc := 59) (v := nI 4) dX0_addCuts_59 (by decide) ?_
        refine G_iload (pc := 60) dX0_addCuts_60 rfl ?_
        refine N_imul (pc := 62) dX0_addCuts_62 ?_
        refine G_ishl (pc := 63) dX0_addCuts_63 ?_
        rw [shlN (by omega) (by omega)]
        refine G_ior (pc := 64) dX0_addCuts_64 ?_
        rw [orN _ hacc]
        refine G_istore (pc := 65) dX0_addCuts_65 (by decide) rfl ?_
        refine N_iinc (pc := 67) dX0_addCuts_67 rfl (by decide) rfl ?_
        refine G_goto (pc := 70) (tgt := 9) dX0_addCuts_70 (by decide) ?_
        refine ih (k + 1) (v &&& w) _ (fun i => P i ∧ bitT S0 fr to i t) _ (by omega) (fun i hi => by rw [show k + 1 + i = k + (i + 1) by omega, hs (i + 1) (by simp; omega)]; simp) (fun x hx => ht x (List.mem_cons_of_mem _ hx)) ⟨hvw, c38⟩ hlt hbt hPf2 hno (fun v' o6 g1 g2 => ?_)
        have := h v' o6 g1 g2
        rw [p16_s, pk_sh, ← hwe]
        exact this
      · skip
        refine S_vret (pc := 41) dX0_addCuts_41 rfl ?_
        refine hno (fun i hi q => ?_)
        have q2 := (hbt i hi).mpr ((hPf2 i hi).mp q).1
        rw [c38, Nat.zero_testBit] at q2
        cases q2
    refine G_iload (pc := 9) dX0_addCuts_9 rfl ?_
    refine G_aload_n (pc := 11) dX0_addCuts_11 rfl rfl ?_
    refine S_getI (pc := 12) dX0_addCuts_12 fX0_17 rfl (by first | rfl | assumption) rfl ?_
    rw [hc]
    refine N_icmp_ge (pc := 15) (tgt := 73) dX0_addCuts_15 (by decide) (by omega) (fun c15 => absurd c15 (by omega)) (fun c15 => ?_)
    refine G_aload_n (pc := 18) dX0_addCuts_18 rfl rfl ?_
    refine S_getR (pc := 19) (b := 7) dX0_addCuts_19 fX0_11 rfl rfl (by first | rfl | assumption) rfl rfl ?_
    refine G_iload (pc := 22) dX0_addCuts_22 rfl ?_
    refine N_aald (pc := 24) (t := 3) (n := 4) (b := 289 + 7 * t) dX0_addCuts_24 (by first | rfl | assumption) (by first | rfl | assumption) (by decide) (by omega) hsk ?_
    refine G_astore (pc := 25) dX0_addCuts_25 (by decide) rfl ?_
    refine G_iload_n (pc := 27) dX0_addCuts_27 rfl rfl ?_
    refine G_aload (pc := 28) dX0_addCuts_28 rfl ?_
    refine G_iload_n (pc := 30) dX0_addCuts_30 rfl rfl ?_
    refine G_iload_n (pc := 31) dX0_addCuts_31 rfl rfl ?_
    refine S_callV (av := [_, _]) (pc := 32) (z := mX8_spanBits) (ci := 7) dX0_addCuts_32 zX8_spanBits lX0_addCuts_105 rfl (by first | rfl | assumption) rfl rfl (sX8_spanBits hK0 t2.1 hp hsp hfr hto (fun g => ⟨_, rfl, ?_⟩) (fun x y w hx hy hxy hw hb => ⟨_, rfl, ?_⟩))
    · refine K35 0 (by omega) (fun i hi => ⟨fun q => (by rw [Nat.zero_testBit] at q; cases q), fun q => ?_⟩)
      obtain ⟨x, y, hx, hy, q⟩ := q
      have := g x y hx hy
      rw [cmp3 hi] at q
      split at q
      · have := q.1; omega
      · have := q.1; omega
    exact K35 w hw (fun i hi => (hb i hi).trans ⟨fun q => ⟨x, y, hx, hy, q⟩, fun ⟨x', y', h1, h2, q⟩ => by rw [hx] at h1; rw [hy] at h2; cases h1; cases h2; exact q⟩)
set_option maxRecDepth 100000 in
set_option maxHeartbeats 4000000 in
theorem addCuts_lp2 {S0 : ST} {ts : List Nat} {fr to v Wd : Nat} (hts : TsOk S0 ts) (hfr : fr < 40) (hto : to < 40) (hv : v < 64) (hW : Wd = pkd (wdN S0 fr to) ts) (hvb : ∀ i, i < 6 → (v.testBit i = true ↔ ∀ t ∈ ts, bitT S0 fr to i t)) (hWf : (∃ i, i < 6 ∧ v.testBit i = true) → Wd ≤ fuN S0 ts) (hW2 : Wd < 65536) :
    ∀ (d tn : Nat) (S : ST) (gn : Nat), tn + d = 3 → FtH S0 S ts → FtP S0 S ts (pcF S0 ts false (120 * fr + 3 * to + tn)) (pcF S0 ts true (120 * fr + 3 * to + tn)) gn → (gn ≤ 40 * fr + to ∨ (¬ S.2.1 13 (fuN S0 ts - Wd) = nI 0 ∧ gn ≤ 40 * fr + to + 1)) →
      (∀ S' gn', Fr acX acA S S' → FtP S0 S' ts (pcF S0 ts false (120 * fr + 3 * to + 3)) (pcF S0 ts true (120 * fr + 3 * to + 3)) gn' → gn' ≤ 40 * fr + to + 1 → Q none (mk S')) →
      G sc mX0_addCuts 86 [some (aR 6), some (aI (nI fr)), some (aI (nI to)), some (aI (nI v)), some (aI (nI Wd)), some (aI (nI (120 * fr + 3 * to))), some (aI (nI tn))] [] (mk S) Q := by
  have hfu := fuN_lt hts
  intro d
  induction d with
  | zero =>
    intro tn S gn htn hH hP hgn h
    have e : tn = 3 := by omega
    subst e
    refine G_iload (pc := 86) dX0_addCuts_86 rfl ?_
    refine G_iconst (pc := 88) (v := nI 3) dX0_addCuts_88 (by decide) ?_
    refine N_icmp_ge (pc := 89) (tgt := 159) dX0_addCuts_89 (by decide) (by omega) (fun c89 => ?_) (fun c89 => absurd c89 (by omega))
    refine S_vret (pc := 159) dX0_addCuts_159 rfl ?_
    exact h S gn Fr.rf hP (by rcases hgn with q | q <;> omega)
  | succ d ih =>
    intro tn S gn htn hH hP hgn h
    have hfl := pcF_len S0 ts false (120 * fr + 3 * to + tn)
    have hbl := pcF_len S0 ts true (120 * fr + 3 * to + tn)
    have e1 : ∀ bh, pcF S0 ts bh (120 * fr + 3 * to + (tn + 1)) = oApp (pcF S0 ts bh (120 * fr + 3 * to + tn)) (120 * fr + 3 * to + tn) (longF S0 ts (120 * fr + 3 * to + tn) bh) := fun bh => rfl
    generalize hF : pcF S0 ts false (120 * fr + 3 * to + tn) = F at hP hfl e1
    generalize hB : pcF S0 ts true (120 * fr + 3 * to + tn) = B at hP hbl e1
    have f1 := @ffL_len S0 ts F
    have f2 := @whL_len S0 ts F
    have f3 := @lbL_len S0 ts B
    -- behind the second piece
    have K86 : ∀ S1 gn1, Fr acX acA S S1 → FtP S0 S1 ts (pcF S0 ts false (120 * fr + 3 * to + (tn + 1))) (pcF S0 ts true (120 * fr + 3 * to + (tn + 1))) gn1 → (gn1 ≤ 40 * fr + to ∨ (¬ S1.2.1 13 (fuN S0 ts - Wd) = nI 0 ∧ gn1 ≤ 40 * fr + to + 1)) → G sc mX0_addCuts 86 [some (aR 6), some (aI (nI fr)), some (aI (nI to)), some (aI (nI v)), some (aI (nI Wd)), some (aI (nI (120 * fr + 3 * to))), some (aI (nI (tn + 1)))] [] (mk S1) Q :=
      fun S1 gn1 w1 w2 w3 => ih (tn + 1) S1 gn1 (by omega) (hH.fr (ft_ac w1)) w2 w3 (fun S' gn' q1 q2 q3 => h S' gn' (w1.tr q1) q2 q3)
    -- behind the first piece
    have K113 : ∀ S1, Fr afX afA S S1 → FsIs S1 (ffL S0 ts (pcF S0 ts false (120 * fr + 3 * to + (tn + 1)))) → WhIs S1 (whL S0 ts (pcF S0 ts false (120 * fr + 3 * to + (tn + 1)))) → G sc mX0_addCuts 113 [some (aR 6), some (aI (nI fr)), some (aI (nI to)), some (aI (nI v)), some (aI (nI Wd)), some (aI (nI (120 * fr + 3 * to))), some (aI (nI tn))] [] (mk S1) Q := by
      intro S1 w1 w2 w3
      have hL1 := hP.2.2.af w1
      have e13 : ∀ j, S1.2.1 13 j = S.2.1 13 j := w1.2.1 13 (by omega)
      have hfu1 : S1.1 6 2 = nI (fuN S0 ts) := (w1.1 6 2 (by omega)).trans hH.2.1
      by_cases hb : v.testBit (3 + tn) = true
      · have hlong : longF S0 ts (120 * fr + 3 * to + tn) true = some Wd := by rw [hW]; exact cutL_some hfr hto (by omega) (by simpa using (hvb (3 + tn) (by omega)).mp hb)
        have eB := e1 true
        rw [hlong, hB] at eB
        have eB : pcF S0 ts true (120 * fr + 3 * to + (tn + 1)) = B ++ [(120 * fr + 3 * to + tn, Wd)] := eB
        have hle := hWf ⟨_, by omega, hb⟩
        refine G_iload_n (pc := 113) dX0_addCuts_113 rfl rfl ?_
        refine G_iconst (pc := 114) (v := nI 3) dX0_addCuts_114 (by decide) ?_
        refine G_iload (pc := 115) dX0_addCuts_115 rfl ?_
        refine N_iadd (pc := 117) dX0_addCuts_117 ?_
        refine G_ishr (pc := 118) dX0_addCuts_118 ?_
        rw [shrN (by omega) (by omega)]
        refine G_iconst (pc := 119) (v := nI 1) dX0_addCuts_119 (by decide) ?_
        refine G_iand (pc := 120) dX0_addCuts_120 ?_
        rw [and1]
        refine G_iconst (pc := 121) (v := nI 1) dX0_addCuts_121 (by decide) ?_
        refine N_icmp_ne (pc := 122) (tgt := 153) dX0_addCuts_122 (by decide) (by omega) (fun c122 => absurd c122 (by rw [tbE]; exact fun q => q hb)) (fun c122 => ?_)
        refine G_iload (pc := 125) dX0_addCuts_125 rfl ?_
        refine G_aload_n (pc := 127) dX0_addCuts_127 rfl rfl ?_
        refine S_getI (pc := 128) dX0_addCuts_128 fX0_21 rfl (by first | rfl | assumption) rfl ?_
        rw [hfu1]
        refine N_icmp_eq (pc := 131) (tgt := 153) dX0_addCuts_131 (by decide) (by omega) (fun c131 => ?_) (fun c131 => ?_)
        · skip
          refine N_iinc (pc := 153) dX0_addCuts_153 rfl (by decide) rfl ?_
          refine G_goto (pc := 156) (tgt := 86) dX0_addCuts_156 (by decide) ?_
          first
          | exact K86 S1 gn (ac_af w1) ⟨w2, w3, by rw [eB, lbL_n (by rw [Bool.eq_false_iff]; exact fun q => (okB_cut (by omega)).mp q c131)]; exact hL1⟩ (by rw [e13]; exact hgn)
          | exact K86 S2 g2 ((ac_af w1).tr (ac_la x1)) ⟨w2.k (x1.1 6 9 (by omega)) (x1.2.1 9 (by omega)) (x1.2.1 10 (by omega)), w3.k (x1.1 6 12 (by omega)) (x1.2.1 20 (by omega)), by rw [eB, lbL_y ((okB_cut (by omega)).mpr c131)]; exact x2⟩ (Or.inr ⟨x3, x4⟩)
        · skip
          refine G_aload_n (pc := 134) dX0_addCuts_134 rfl rfl ?_
          refine S_getR (pc := 135) (b := 12) dX0_addCuts_135 fX0_50 rfl rfl (by first | rfl | assumption) rfl rfl ?_
          refine G_aload_n (pc := 138) dX0_addCuts_138 rfl rfl ?_
          refine S_getI (pc := 139) dX0_addCuts_139 fX0_21 rfl (by first | rfl | assumption) rfl ?_
          rw [hfu1]
          refine G_iload (pc := 142) dX0_addCuts_142 rfl ?_
          refine N_isub (pc := 144) dX0_addCuts_144 hle ?_
          refine G_iload (pc := 145) dX0_addCuts_145 rfl ?_
          refine G_iload (pc := 147) dX0_addCuts_147 rfl ?_
          refine N_iadd (pc := 149) dX0_addCuts_149 ?_
          refine S_callV (av := [_, _]) (pc := 150) (z := mX2_add) (ci := 1) dX0_addCuts_150 zX2_add lX0_addCuts_112 rfl (by first | rfl | assumption) rfl rfl (sX2_add (GM := 40 * fr + to) hL1 (by omega) (by omega) (Or.inl (by omega)) (by omega) (by rw [e13]; exact hgn) (fun S2 g2 x1 x2 x3 x4 => ⟨_, rfl, ?_⟩))
          refine N_iinc (pc := 153) dX0_addCuts_153 rfl (by decide) rfl ?_
          refine G_goto (pc := 156) (tgt := 86) dX0_addCuts_156 (by decide) ?_
          first
          | exact K86 S1 gn (ac_af w1) ⟨w2, w3, by rw [eB, lbL_n (by rw [Bool.eq_false_iff]; exact fun q => (okB_cut (by omega)).mp q c131)]; exact hL1⟩ (by rw [e13]; exact hgn)
          | exact K86 S2 g2 ((ac_af w1).tr (ac_la x1)) ⟨w2.k (x1.1 6 9 (by omega)) (x1.2.1 9 (by omega)) (x1.2.1 10 (by omega)), w3.k (x1.1 6 12 (by omega)) (x1.2.1 20 (by omega)), by rw [eB, lbL_y ((okB_cut (by omega)).mpr c131)]; exact x2⟩ (Or.inr ⟨x3, x4⟩)
      · have hlong : longF S0 ts (120 * fr + 3 * to + tn) true = none := cutL_none hfr hto (by omega) (fun q => hb ((hvb (3 + tn) (by omega)).mpr (by simpa using q)))
        have eB := e1 true
        rw [hlong, hB] at eB
        have eB : pcF S0 ts true (120 * fr + 3 * to + (tn + 1)) = B := eB
        refine G_iload_n (pc := 113) dX0_addCuts_113 rfl rfl ?_
        refine G_iconst (pc := 114) (v := nI 3) dX0_addCuts_114 (by decide) ?_
        refine G_iload (pc := 115) dX0_addCuts_115 rfl ?_
        refine N_iadd (pc := 117) dX0_addCuts_117 ?_
        refine G_ishr (pc := 118) dX0_addCuts_118 ?_
        rw [shrN (by omega) (by omega)]
        refine G_iconst (pc := 119) (v := nI 1) dX0_addCuts_119 (by decide) ?_
        refine G_iand (pc := 120) dX0_addCuts_120 ?_
        rw [and1]
        refine G_iconst (pc := 121) (v := nI 1) dX0_addCuts_121 (by decide) ?_
        refine N_icmp_ne (pc := 122) (tgt := 153) dX0_addCuts_122 (by decide) (by omega) (fun c122 => ?_) (fun c122 => absurd c122 (by rw [tbE]; exact hb))
        refine N_iinc (pc := 153) dX0_addCuts_153 rfl (by decide) rfl ?_
        refine G_goto (pc := 156) (tgt := 86) dX0_addCuts_156 (by decide) ?_
        exact K86 S1 gn (ac_af w1) ⟨w2, w3, by rw [eB]; exact hL1⟩ (by rw [e13]; exact hgn)
    by_cases hb : v.testBit tn = true
    · have hlong : longF S0 ts (120 * fr + 3 * to + tn) false = some Wd := by rw [hW]; exact cutL_some hfr hto (by omega) (by simpa using (hvb tn (by omega)).mp hb)
      have eF := e1 false
      rw [hlong, hF] at eF
      have eF : pcF S0 ts false (120 * fr + 3 * to + (tn + 1)) = F ++ [(120 * fr + 3 * to + tn, Wd)] := eF
      rw [eF] at K113
      refine G_iload (pc := 86) dX0_addCuts_86 rfl ?_
      refine G_iconst (pc := 88) (v := nI 3) dX0_addCuts_88 (by decide) ?_
      refine N_icmp_ge (pc := 89) (tgt := 159) dX0_addCuts_89 (by decide) (by omega) (fun c89 => absurd c89 (by omega)) (fun c89 => ?_)
      refine G_iload_n (pc := 92) dX0_addCuts_92 rfl rfl ?_
      refine G_iload (pc := 93) dX0_addCuts_93 rfl ?_
      refine G_ishr (pc := 95) dX0_addCuts_95 ?_
      rw [shrN (by omega) (by omega)]
      refine G_iconst (pc := 96) (v := nI 1) dX0_addCuts_96 (by decide) ?_
      refine G_iand (pc := 97) dX0_addCuts_97 ?_
      rw [and1]
      refine G_iconst (pc := 98) (v := nI 1) dX0_addCuts_98 (by decide) ?_
      refine N_icmp_ne (pc := 99) (tgt := 113) dX0_addCuts_99 (by decide) (by omega) (fun c99 => absurd c99 (by rw [tbE]; exact fun q => q hb)) (fun c99 => ?_)
      refine G_aload_n (pc := 102) dX0_addCuts_102 rfl rfl ?_
      refine G_iload (pc := 103) dX0_addCuts_103 rfl ?_
      refine G_iload (pc := 105) dX0_addCuts_105 rfl ?_
      refine N_iadd (pc := 107) dX0_addCuts_107 ?_
      refine G_iload (pc := 108) dX0_addCuts_108 rfl ?_
      refine S_callV (av := [_, _]) (pc := 110) (z := mX0_addFirst) (ci := 0) dX0_addCuts_110 zX0_addFirst lX0_addCuts_109 rfl (by first | rfl | assumption) rfl rfl (sX0_addFirst hH.2.1 (by omega) hP.1 hP.2.1 (by omega) (by omega) (fun c S1 x1 x2 x3 => ⟨_, rfl, ?_⟩) (fun c S1 x1 x2 x3 => ⟨_, rfl, ?_⟩))
      · exact K113 S1 x1 (by rw [ffL_y c]; exact x2) (by rw [whL_y c]; exact x3)
      exact K113 S1 x1 (by rw [ffL_n c]; exact x2) (by rw [whL_n c]; exact x3)
    · have hlong : longF S0 ts (120 * fr + 3 * to + tn) false = none := cutL_none hfr hto (by omega) (fun q => hb ((hvb tn (by omega)).mpr (by simpa using q)))
      have eF := e1 false
      rw [hlong, hF] at eF
      have eF : pcF S0 ts false (120 * fr + 3 * to + (tn + 1)) = F := eF
      rw [eF] at K113
      refine G_iload (pc := 86) dX0_addCuts_86 rfl ?_
      refine G_iconst (pc := 88) (v := nI 3) dX0_addCuts_88 (by decide) ?_
      refine N_icmp_ge (pc := 89) (tgt := 159) dX0_addCuts_89 (by decide) (by omega) (fun c89 => absurd c89 (by omega)) (fun c89 => ?_)
      refine G_iload_n (pc := 92) dX0_addCuts_92 rfl rfl ?_
      refine G_iload (pc := 93) dX0_addCuts_93 rfl ?_
      refine G_ishr (pc := 95) dX0_addCuts_95 ?_
      rw [shrN (by omega) (by omega)]
      refine G_iconst (pc := 96) (v := nI 1) dX0_addCuts_96 (by decide) ?_
      refine G_iand (pc := 97) dX0_addCuts_97 ?_
      rw [and1]
      refine G_iconst (pc := 98) (v := nI 1) dX0_addCuts_98 (by decide) ?_
      refine N_icmp_ne (pc := 99) (tgt := 113) dX0_addCuts_99 (by decide) (by omega) (fun c99 => ?_) (fun c99 => absurd c99 (by rw [tbE]; exact hb))
      exact K113 S Fr.rf hP.1 hP.2.1
set_option maxRecDepth 100000 in
set_option maxHeartbeats 4000000 in
theorem sX0_addCuts {S0 : ST} {ts : List Nat} {fr to gn : Nat} (hts : TsOk S0 ts) (h0 : ts ≠ []) (hfr : fr < 40) (hto : to < 40) (hH : FtH S0 S ts) (hP : FtP S0 S ts (pcF S0 ts false (120 * fr + 3 * to)) (pcF S0 ts true (120 * fr + 3 * to)) gn) (hgn : gn ≤ 40 * fr + to)
    (h : ∀ S' gn', Fr acX acA S S' → FtP S0 S' ts (pcF S0 ts false (120 * fr + 3 * to + 3)) (pcF S0 ts true (120 * fr + 3 * to + 3)) gn' → gn' ≤ 40 * fr + to + 1 → Q none (mk S')) : CT sc mX0_addCuts [aR 6, aI (nI fr), aI (nI to)] (mk S) Q := by
  refine S_of (by decide) rfl ?_
  show G sc mX0_addCuts 0 [some (aR 6), some (aI (nI fr)), some (aI (nI to)), none, none, none, none] [] (mk S) Q
  have hno : (∀ i, i < 6 → ¬ ∀ t ∈ ts, bitT S0 fr to i t) → ∀ bh, pcF S0 ts bh (120 * fr + 3 * to + 3) = pcF S0 ts bh (120 * fr + 3 * to) := by
    intro hb bh
    have e : ∀ tn, tn < 3 → pcF S0 ts bh (120 * fr + 3 * to + (tn + 1)) = pcF S0 ts bh (120 * fr + 3 * to + tn) := fun tn htn => by
      show oApp _ _ (longF S0 ts (120 * fr + 3 * to + tn) bh) = _
      rw [cutL_none hfr hto htn (hb _ (by split <;> omega))]
      rfl
    rw [e 2 (by omega), e 1 (by omega), e 0 (by omega)]
    rfl
  have hwt : ∀ i, i < 6 → (∀ t ∈ ts, bitT S0 fr to i t) → pkd (wdN S0 fr to) ts ≤ fuN S0 ts := fun i hi hb => (pkd_sub (u := esN S0) ts (fun t ht => (cut_wl (tn := 0) hfr hto (by omega) hi (hb t ht)).2.2)).2
  refine G_bipush (pc := 0) (v := nI 63) dX0_addCuts_0 (by decide) ?_
  refine G_istore_n (pc := 2) dX0_addCuts_2 rfl (by decide) rfl ?_
  refine G_iconst (pc := 3) (v := nI 0) dX0_addCuts_3 (by decide) ?_
  refine G_istore (pc := 4) dX0_addCuts_4 (by decide) rfl ?_
  refine G_iconst (pc := 6) (v := nI 0) dX0_addCuts_6 (by decide) ?_
  refine G_istore (pc := 7) dX0_addCuts_7 (by decide) rfl ?_
  refine addCuts_lp (S0 := S0) (Pf := fun i => ∀ t ∈ ts, bitT S0 fr to i t) hfr hto hts.1 hH.1 ts 0 63 0 (fun _ => True) _ (by omega) (fun i hi => by rw [Nat.zero_add]; exact hH.2.2.2.1 i hi) (fun t ht => ⟨(hts.2 t ht).1, ⟨(hts.2 t ht).2.2.1, (hts.2 t ht).2.2.2.2.2⟩, (hH.2.2.2.2 t ht).2.1, (hH.2.2.2.2 t ht).2.2.2⟩) (by omega) (by omega) (fun i hi => ⟨fun _ => trivial, fun _ => ?_⟩) (fun i hi => ⟨fun q => ⟨trivial, q⟩, fun q => q.2⟩) (fun hb => h S gn Fr.rf (by rw [hno hb, hno hb]; exact hP) (by omega)) (fun v o6 hv hvb => ?_)
  · revert i
    decide
  · rw [show 0 + pkd (wdN S0 fr to) ts * 2 ^ (4 * 0) = pkd (wdN S0 fr to) ts by simp]
    obtain ⟨i, i1, i2⟩ := bit_ex2 hv.1 hv.2
    have hw0 := hwt i i1 ((hvb i i1).mp i2)
    have hfu := fuN_lt hts
    refine G_bipush (pc := 73) (v := nI 120) dX0_addCuts_73 (by decide) ?_
    refine G_iload_n (pc := 75) dX0_addCuts_75 rfl rfl ?_
    refine N_imul (pc := 76) dX0_addCuts_76 ?_
    refine G_iconst (pc := 77) (v := nI 3) dX0_addCuts_77 (by decide) ?_
    refine G_iload_n (pc := 78) dX0_addCuts_78 rfl rfl ?_
    refine N_imul (pc := 79) dX0_addCuts_79 ?_
    refine N_iadd (pc := 80) dX0_addCuts_80 ?_
    refine G_istore (pc := 81) dX0_addCuts_81 (by decide) rfl ?_
    refine G_iconst (pc := 83) (v := nI 0) dX0_addCuts_83 (by decide) ?_
    refine G_istore (pc := 84) dX0_addCuts_84 (by decide) rfl ?_
    exact addCuts_lp2 hts hfr hto hv.1 rfl hvb (fun _ => hw0) (by omega) 3 0 S gn (by omega) hH hP (Or.inl hgn) h
end C9
