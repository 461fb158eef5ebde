/-! a call on both: show -/
section IA
variable {sc : SC} {S S1 S2 S3 A2 B2 : ST} {n : Nat}
theorem shw_2 {k m t : Nat} : (shwS S k m).2.1 392 t = if t = k then nI 1 else S.2.1 392 t := by
  show (upI (upI (upI (upR S 393 (36 * k) m (S.2.1 396)) 394 k (nI m)) 392 k (nI 1)) 395 k (nI 0)).2.1 392 t = _
  rw [upI_n (by omega)]
  split
  · rename_i q; rw [q, upI_s]
  · rw [upI_n (by omega), upI_n (by omega), upR_n (by omega)]
theorem shw_4 {k m t : Nat} : (shwS S k m).2.1 394 t = if t = k then nI m else S.2.1 394 t := by
  show (upI (upI (upI (upR S 393 (36 * k) m (S.2.1 396)) 394 k (nI m)) 392 k (nI 1)) 395 k (nI 0)).2.1 394 t = _
  rw [upI_n (by omega), upI_n (by omega)]
  split
  · rename_i q; rw [q, upI_s]
  · rw [upI_n (by omega), upR_n (by omega)]
theorem shw_5 {k m t : Nat} : (shwS S k m).2.1 395 t = if t = k then nI 0 else S.2.1 395 t := by
  show (upI (upI (upI (upR S 393 (36 * k) m (S.2.1 396)) 394 k (nI m)) 392 k (nI 1)) 395 k (nI 0)).2.1 395 t = _
  split
  · rename_i q; rw [q, upI_s]
  · rw [upI_n (by omega), upI_n (by omega), upI_n (by omega), upR_n (by omega)]
theorem shw_3 {k m i : Nat} : (shwS S k m).2.1 393 i = if 36 * k ≤ i ∧ i < 36 * k + m then S.2.1 396 (i - 36 * k) else S.2.1 393 i := by
  show (upI (upI (upI (upR S 393 (36 * k) m (S.2.1 396)) 394 k (nI m)) 392 k (nI 1)) 395 k (nI 0)).2.1 393 i = _
  rw [upI_n (by omega), upI_n (by omega), upI_n (by omega)]
  split
  · rename_i q; rw [upR_in q]
  · rw [upR_n (by omega)]
theorem shw_f {k m : Nat} : Fr (fun _ _ => False) (fun a => 392 ≤ a ∧ a ≤ 395) S (shwS S k m) := Fr.tr (Fr.tr (Fr.tr (Fr.upR (by omega)) (Fr.upI (by omega))) (Fr.upI (by omega))) (Fr.upI (by omega))
theorem PA_show {t : Int32} (h : IV S n) : PA sc mX9_show mX10_show [aI t] S n := by
  intro Q k
  obtain ⟨l, z1, z2, z3, z4⟩ := h.2.2.2.1
  have k12 := h.a.1.2
  have c4 := cnt_l h.b
  have l4 := h.l4
  refine sX9_show h.a h.b h.th z2 z4 z3 (fun d => k _ S (fun Q' k' => ?_)) (fun u e1 e2 d => k _ _ (fun Q' k' => ?_)) (fun u e1 e2 d1 d2 => k _ _ (fun Q' k' => ?_)) (fun u e1 e2 d1 d2 S0 g b5 b6 b3 be bs => ?_)
  · have no : ∀ u, t = nI u → u < thN S → False := fun u q1 q2 => by
      have : isTh (thN S) t = true := decide_eq_true (by rw [q1, nIt (by omega)]; omega)
      rw [this] at d; cases d
    exact sX10_show h.a h.b z1 z4 (fun _ => k' S h.mono) (fun u q1 q2 => (no u q1 q2).elim) (fun u q1 q2 => (no u q1 q2).elim) (fun u q1 q2 => (no u q1 q2).elim)
  · have lo : LoF S (upX S 1 1 (nI 0)) := LoF.of (Fr.upX (px := fun a j => a = 1 ∧ j = 1) (pi := fun _ => False) ⟨rfl, rfl⟩).n (fun a j q => by omega) (fun a q => by cases q)
    have hth : isTh (thN (upX S 1 1 (nI 0))) t = true := decide_eq_true (by rw [thN_m lo.t.sm, e1, nIt (by omega)]; omega)
    refine sX10_show (MIa_e lo.t h.a) (MIb_e lo.t h.b) (z1.kept (upX_n (by omega)) (fun i => rfl)) z4 (fun q => by rw [hth] at q; cases q) (fun u' _ _ _ _ => k' _ ?_) (fun u' _ _ _ q => absurd q d) (fun u' _ _ _ q => absurd q d)
    exact IV_t h (Fr.upX (Or.inr ⟨rfl, rfl⟩)) (Fr.upX ⟨rfl, Or.inl rfl⟩) (TP_nil upX_s upX_s)
  · have lo : LoF S (upX S 1 1 (nI 0)) := LoF.of (Fr.upX (px := fun a j => a = 1 ∧ j = 1) (pi := fun _ => False) ⟨rfl, rfl⟩).n (fun a j q => by omega) (fun a q => by cases q)
    have hth : isTh (thN (upX S 1 1 (nI 0))) t = true := decide_eq_true (by rw [thN_m lo.t.sm, e1, nIt (by omega)]; omega)
    refine sX10_show (MIa_e lo.t h.a) (MIb_e lo.t h.b) (z1.kept (upX_n (by omega)) (fun i => rfl)) z4 (fun q => by rw [hth] at q; cases q) (fun u' _ _ _ q => absurd d1 q) (fun u' _ _ _ _ _ => k' _ ?_) (fun u' q1 q2 _ _ q => ?_)
    · exact IV_t h (Fr.upX (Or.inr ⟨rfl, rfl⟩)) (Fr.upX ⟨rfl, Or.inl rfl⟩) (TP_nil upX_s upX_s)
    · have eu : u' = u := nI_ij (q1.symm.trans e1) (by have := thN_m lo.t.sm; omega) (by omega)
      rw [eu, cntS_m lo.t.sm, thN_m lo.t.sm, stN_m lo.t.sm, if_neg d2.1] at q
      exact absurd (by omega) q
  · have g1 : Fr (fun a j => swX u a j ∨ (a = 1 ∧ j = 1)) (swA u) S (upX S0 1 1 (nI 0)) := (g.mono (fun a j q => Or.inl q) (fun a q => q)).tr (Fr.upX (Or.inr ⟨rfl, rfl⟩))
    have lo : LoF S (upX S0 1 1 (nI 0)) := LoF.of g1.n (fun a j q => by omega) (fun a q => by omega)
    have gx : Fr (fun a j => a = 389 ∧ j = 9) (fun a => 392 ≤ a ∧ a ≤ 395) (upX S0 1 1 (nI 0)) (shwS (upX (upX S0 1 1 (nI 0)) 389 9 (nI 0)) u l.length) := (Fr.upX ⟨rfl, rfl⟩).tr (shw_f.mono (fun a j q => by cases q) (fun a q => q))
    have x2 : ∀ t, (shwS (upX (upX S0 1 1 (nI 0)) 389 9 (nI 0)) u l.length).2.1 392 t = if t = u then nI 1 else S.2.1 392 t := fun t => by rw [shw_2]; congr 1; exact lo.2 392 (by omega) t
    have x3 : ∀ i, (shwS (upX (upX S0 1 1 (nI 0)) 389 9 (nI 0)) u l.length).2.1 393 i = if 36 * u ≤ i ∧ i < 36 * u + l.length then S.2.1 396 (i - 36 * u) else S.2.1 393 i := fun i => by
      rw [shw_3]
      congr 1
      · exact lo.2 396 (by omega) _
      · exact lo.2 393 (by omega) _
    have x4 : ∀ t, (shwS (upX (upX S0 1 1 (nI 0)) 389 9 (nI 0)) u l.length).2.1 394 t = if t = u then nI l.length else S.2.1 394 t := fun t => by rw [shw_4]; congr 1; exact lo.2 394 (by omega) t
    have x5 : ∀ t, (shwS (upX (upX S0 1 1 (nI 0)) 389 9 (nI 0)) u l.length).2.1 395 t = if t = u then nI 0 else S.2.1 395 t := fun t => by rw [shw_5]; congr 1; exact lo.2 395 (by omega) t
    have x9 : (shwS (upX (upX S0 1 1 (nI 0)) 389 9 (nI 0)) u l.length).1 389 9 = nI 0 := (shw_f.1 389 9 (fun z => z)).trans upX_s
    generalize hA : shwS (upX (upX S0 1 1 (nI 0)) 389 9 (nI 0)) u l.length = A2 at *
    have hc : cntS A2 (nI 1) (thN S) ≤ 4 := by
      have c1 := cnt_up x2 (thN S)
      have e := st_one h.b e2
      rw [if_pos (show u < thN S ∧ (nI 1).toInt = (nI 1).toInt from ⟨e2, rfl⟩)] at c1
      by_cases q : stN S u = 1
      · rw [if_pos ⟨e2, e.mpr q⟩] at c1
        omega
      · rw [if_neg (fun z => q (e.mp z.2))] at c1
        have : ¬ 4 ≤ cntS S (nI 1) (thN S) := fun z => d2 ⟨q, z⟩
        omega
    have hH : TH A2 S0 := by
      refine TH_set (v := 1) (m := l.length) (f := fun j => l.getD j 0) h.1 e2 (Or.inr rfl) ((gx.1 389 0 (by omega)).trans (lo.1 389 0 (by omega))) ((gx.1 389 7 (by omega)).trans (lo.1 389 7 (by omega))) (fun i => (gx.2.1 390 (by omega) i).trans (lo.2 390 (by omega) i)) (fun i => (gx.2.1 391 (by omega) i).trans (lo.2 391 (by omega) i)) x2 (fun t _ q j _ => by rw [x3, if_neg (by omega)]) (fun t _ q => by rw [x4, if_neg q]) ⟨by rw [x4, if_pos rfl], by omega⟩ (fun _ => ⟨d1.1, d1.2, fun j hj => ⟨?_, z3 _ (getD_memI hj)⟩⟩) (fun t _ q => by rw [x5, if_neg q]) (by rw [x5, if_pos rfl]) hc g b5 b6 b3 (fun _ => ⟨be, bs⟩)
      rw [x3, if_pos (by omega), Nat.add_sub_cancel_left]
      exact z1.2 j hj
    have gf : Fr (fun a j => a = 1 ∧ j = 1) (fun _ => False) S0 (upX S0 1 1 (nI 0)) := Fr.upX ⟨rfl, rfl⟩
    have t12 : thN A2 ≤ 12 := hH.1.1.1.2
    have hH1 : TH A2 (upX S0 1 1 (nI 0)) := hH.fn gf.n (by omega) (fun a j q1 q2 q3 => by omega) (fun a q1 q2 q3 => q3) (by omega) (fun z => z) (hH.2.2.2.1.fx t12 gf (by omega) (fun a j q z => by omega) (fun a q z => z)) (hH.2.2.2.2.fn (gf.1 0 6 (by omega)))
    have et := thN_m lo.t.sm
    have et2 : thN A2 = thN (upX S0 1 1 (nI 0)) := by unfold thN; rw [gx.1 389 0 (by omega)]
    have est : ∀ u, stN (upX S0 1 1 (nI 0)) u = stN S u := stN_m lo.t.sm
    have ecn : cntS (upX S0 1 1 (nI 0)) (nI 1) (thN S) = cntS S (nI 1) (thN S) := cntS_m lo.t.sm _ _
    refine ⟨A2, hH.1.2.1, t12, hH.2.1, k _ _ (fun Q' k' => ?_)⟩
    have hth : isTh (thN (upX S0 1 1 (nI 0))) t = true := decide_eq_true (by rw [et, e1, nIt (by omega)]; omega)
    refine sX10_show (MIa_e lo.t h.a) (MIb_e lo.t h.b) (z1.kept (lo.1 389 9 (by omega)) (fun i => lo.2 396 (by omega) i)) z4 (fun q => by rw [hth] at q; cases q) (fun u' _ _ _ q => absurd d1 q) (fun u' q1 q2 _ _ q => ?_) (fun u' q1 q2 _ _ q => ?_)
    · have eu : u' = u := nI_ij (q1.symm.trans e1) (by omega) (by omega)
      rw [eu, et, ecn, est] at q
      by_cases w : stN S u = 1
      · rw [if_pos w] at q; omega
      · rw [if_neg w] at q
        exact absurd ⟨w, by omega⟩ d2
    · have eu : u' = u := nI_ij (q1.symm.trans e1) (by omega) (by omega)
      rw [eu, hA, ← et2]
      have e2' : EP S A2 := lo.p.tr (EP_of gx.n (by omega) (by omega))
      have e3' : ES S A2 := lo.s.tr (ES_of gx.n (fun a q1 q2 => by omega))
      refine k' _ (IV_of hH1 (PG_e e2' (h.2.1.fn g1.n (by omega) (fun a j q1 q2 q3 => by omega) (fun a q1 q2 q3 => by omega))) (SH_e e3' (h.2.2.1.fn g1.n (fun a j q1 q2 q3 => by omega) (fun a q1 q2 q3 => by omega))) (TP_nil x9 upX_s) (HiF.of gx (fun a j q => by omega) (fun a q => by omega)) ?_ ?_)
      · obtain ⟨B, c1, c2, c3⟩ := MIe_lo h.e lo
        exact ⟨B, ⟨(gx.1 389 18 (by omega)).trans c1.1, fun i hi => ⟨(gx.2.1 401 (by omega) i).trans (c1.2 i hi).1, (gx.2.1 402 (by omega) i).trans (c1.2 i hi).2⟩⟩, fun x hx => (gx.2.1 403 (by omega) x).trans (c2 x hx), c3⟩
      · have : dgN A2 = dgN S := by unfold dgN; rw [gx.1 389 7 (by omega), lo.1 389 7 (by omega)]
        rw [this]
        exact Nat.le_succ_of_le h.2.2.2.2.2
end IA
