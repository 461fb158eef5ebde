/-! a call on both: forget, show -/
section I9
variable {sc : SC} {S S1 S2 S3 A2 B2 : ST} {n : Nat}
theorem cnt_l (hb : MIb S) : cntS S (nI 1) (thN S) = (shL S 0).length := by
  have := cntS_sh hb (thN S) 0 (by omega)
  rw [Nat.zero_add] at this
  rw [this]
  show 0 + _ = _
  rw [Nat.zero_add]; rfl
theorem cnt_up {k : Nat} {v : Int32} (r2 : ∀ t, A2.2.1 392 t = if t = k then v else S.2.1 392 t) : ∀ T, cntS A2 (nI 1) T + (if k < T ∧ (S.2.1 392 k).toInt = (nI 1).toInt then 1 else 0) = cntS S (nI 1) T + (if k < T ∧ v.toInt = (nI 1).toInt then 1 else 0)
  | 0 => by rw [if_neg (by omega), if_neg (by omega)]; rfl
  | T + 1 => by
    have ih := cnt_up r2 T
    have e1 : cntS A2 (nI 1) (T + 1) = cntS A2 (nI 1) T + (if (A2.2.1 392 T).toInt = (nI 1).toInt then 1 else 0) := rfl
    have e2 : cntS S (nI 1) (T + 1) = cntS S (nI 1) T + (if (S.2.1 392 T).toInt = (nI 1).toInt then 1 else 0) := rfl
    rw [e1, e2, r2 T]
    by_cases q : T = k
    · subst q
      rw [if_neg (by omega), if_neg (by omega)] at ih
      rw [if_pos rfl]
      have x1 : (T < T + 1 ∧ (S.2.1 392 T).toInt = (nI 1).toInt) ↔ (S.2.1 392 T).toInt = (nI 1).toInt := ⟨fun z => z.2, fun z => ⟨by omega, z⟩⟩
      have x2 : (T < T + 1 ∧ v.toInt = (nI 1).toInt) ↔ v.toInt = (nI 1).toInt := ⟨fun z => z.2, fun z => ⟨by omega, z⟩⟩
      simp only [x1, x2]
      omega
    · rw [if_neg q]
      have x1 : (k < T + 1 ∧ (S.2.1 392 k).toInt = (nI 1).toInt) ↔ (k < T ∧ (S.2.1 392 k).toInt = (nI 1).toInt) := ⟨fun z => ⟨by omega, z.2⟩, fun z => ⟨by omega, z.2⟩⟩
      have x2 : (k < T + 1 ∧ v.toInt = (nI 1).toInt) ↔ (k < T ∧ v.toInt = (nI 1).toInt) := ⟨fun z => ⟨by omega, z.2⟩, fun z => ⟨by omega, z.2⟩⟩
      simp only [x1, x2]
      omega
theorem st_one (hb : MIb S) {k : Nat} (hk : k < thN S) : (S.2.1 392 k).toInt = (nI 1).toInt ↔ stN S k = 1 := by
  have q := (hb k hk).1
  have z : (nI 1).toInt = 1 := rfl
  rw [q.1, nIt (by omega), z]
  omega
/-- a thing's end is told, or forgotten: v 1 and m, or v 0 and as it was -/
theorem TH_set {k v m : Nat} {f : Nat → Int32} (h : TH S S) (hk : k < thN S) (hv : v = 0 ∨ v = 1) (a0 : A2.1 389 0 = S.1 389 0) (a7 : A2.1 389 7 = S.1 389 7) (r0 : ∀ i, A2.2.1 390 i = S.2.1 390 i) (r1 : ∀ i, A2.2.1 391 i = S.2.1 391 i)
    (r2 : ∀ t, A2.2.1 392 t = if t = k then nI v else S.2.1 392 t) (r3 : ∀ t, t < 12 → ¬ t = k → ∀ j, j < 36 → A2.2.1 393 (36 * t + j) = S.2.1 393 (36 * t + j)) (r4 : ∀ t, t < 12 → ¬ t = k → A2.2.1 394 t = S.2.1 394 t) (m35 : A2.2.1 394 k = nI m ∧ m ≤ 35) (mv : v = 1 → 1 ≤ m ∧ m ≤ 12 ∧ ∀ j, j < m → A2.2.1 393 (36 * k + j) = f j ∧ isBy (f j)) (r5 : ∀ t, t < 12 → ¬ t = k → A2.2.1 395 t = S.2.1 395 t) (r5k : A2.2.1 395 k = nI 0)
    (hc : cntS A2 (nI 1) (thN S) ≤ 4) (g : Fr (swX k) (swA k) S B2) (b5 : B2.1 0 5 = nI 0) (b6 : B2.1 0 6 = -1) (b3 : B2.1 (289 + 7 * k) 3 = nI v) (be : v = 1 → EnIs B2 (289 + 7 * k) f m ∧ SpIs B2 (289 + 7 * k) (lnB S k) (szN S k) f m) : TH A2 B2 := by
  obtain ⟨⟨ha, hb, hg, h4, hu⟩, hC, hD, hF, hs⟩ := h
  have h12 := ha.1.2
  have th2 : thN A2 = thN S := by unfold thN; rw [a0]
  have dg2 : dgN A2 = dgN S := by unfold dgN; rw [a7]
  have sz : ∀ t, szN A2 t = szN S t := fun t => by unfold szN; rw [r1 t]
  have ln : ∀ t, lnB A2 t = lnB S t := fun t => by funext j; exact r0 _
  have st : ∀ t, stN A2 t = if t = k then v else stN S t := fun t => by
    unfold stN
    rw [r2 t]
    split
    · rw [nI_clamp (by omega)]
    · rfl
  have es : ∀ t, t < 12 → ¬ t = k → esN A2 t = esN S t := fun t h1 h2 => by unfold esN; rw [r4 t h1 h2]
  have esk : esN A2 k = m := by unfold esN; rw [m35.1, nI_clamp (by omega)]
  have db : ∀ t, t < 12 → ¬ t = k → dbN A2 t = dbN S t := fun t h1 h2 => by unfold dbN; rw [r5 t h1 h2]
  have dbk : dbN A2 k = 0 := by unfold dbN; rw [r5k, nI_clamp (by omega)]
  have hMb : MIb A2 := by
    intro t ht
    rw [th2] at ht
    by_cases q : t = k
    · subst q
      rw [st, if_pos rfl, r2, if_pos rfl, esk]
      exact ⟨⟨rfl, by omega⟩, m35, fun z => ⟨(mv z).1, (mv z).2.1⟩, fun z j hj => by rw [((mv (by omega)).2.2 j hj).1]; exact ((mv (by omega)).2.2 j hj).2⟩
    · obtain ⟨z1, z2, z3, z4⟩ := hb t ht
      rw [st, if_neg q, r2, if_neg q, es t (by omega) q, r4 t (by omega) q]
      exact ⟨z1, z2, z3, fun w j hj => by rw [r3 t (by omega) q j (by omega)]; exact z4 w j hj⟩
  refine ⟨⟨MIa_of ha a0 r1 r0, hMb, ⟨⟨by rw [dg2, a7]; exact hg.1.1, by rw [dg2]; exact hg.1.2⟩, fun t ht => ?_⟩, by rw [← cnt_l hMb, th2]; exact hc, fun t ht => ?_⟩, ⟨by rw [th2]; exact (g.1 0 3 (by omega)).trans hC.1, fun t ht => ⟨fun q => ?_, fun q => ?_⟩⟩, ⟨by rw [dg2]; exact (g.1 0 9 (by omega)).trans hD.1, fun j hj => ?_⟩, ⟨?_, Or.inl b5⟩, Or.inl b6⟩
  · rw [th2] at ht
    rw [dg2]
    by_cases q : t = k
    · subst q
      rw [dbk, st, if_pos rfl]
      exact ⟨r5k, by omega, by omega⟩
    · rw [db t (by omega) q, st, if_neg q, r5 t (by omega) q]
      exact hg.2 t ht
  · by_cases q : t = k
    · rw [q, esk]; exact m35
    · rw [es t ht q, r4 t ht q]; exact hu t ht
  · rw [th2] at q
    by_cases e : t = k
    · subst e
      obtain ⟨c1, c2, c3, c4, c5⟩ := (hC.2 t ht).1 q
      unfold CT1
      rw [sz, st, if_pos rfl, ln, esk]
      refine ⟨c1.fr g (by omega) (by omega), c2.fr g (by omega), b3, fun z => ?_, fun z => ?_⟩
      · have zv : v = 1 := by omega
        exact (be zv).1.cg (fun j hj => ((mv zv).2.2 j hj).1.symm)
      · exact (be z).2.cg (fun j hj => rfl) (fun j hj => ((mv z).2.2 j hj).1.symm)
    · have c1 := (hC.2 t ht).1 q
      exact CT1_t (CT1_fn c1 g.n (fun i j hi z => by omega) (fun i hi z => by omega)) (sz t) (by rw [st, if_neg e]) (es t ht e) (fun j hj => by rw [ln]) (fun j hj => (r3 t ht e j (by have := (hb t q).2.1.2; omega)).symm)
  · rw [th2] at q
    exact (g.1 _ _ (by omega)).trans ((hC.2 t ht).2 q)
  · rw [dg2] at hj
    obtain ⟨w, v1, v2, v3⟩ := hD.2 j hj
    refine ⟨w, v1, (g.2.1 281 (by omega) j).trans v2, fun t ht hs2 => ?_⟩
    rw [th2] at ht
    by_cases q : t = k
    · rw [st, if_pos q] at hs2; omega
    · rw [st, if_neg q] at hs2
      rw [db t (by omega) q]
      exact v3 t ht hs2
  · obtain ⟨LB, gg, h1⟩ := hF.1
    exact ⟨LB, gg, h1.k (fun j => g.1 12 j (by omega)) (fun a q1 q2 j => g.2.1 a (by omega) j)⟩
theorem PA_forget {t : Int32} (h : IV S n) : PA sc mX9_forget mX10_forget [aI t] S n := by
  intro Q k
  have k12 := h.a.1.2
  refine sX9_forget h.a h.b h.th (fun d => k _ S (fun Q' k' => ?_)) (fun d1 d2 => k _ S (fun Q' k' => ?_)) (fun u e1 e2 e3 => ?_)
  · exact sX10_forget h.a h.b (fun _ => k' S h.mono) (fun q => by rw [q] at d; cases d) (fun u q1 q2 q3 => by
      have : isTh (thN S) t = true := decide_eq_true (by rw [q1, nIt (by omega)]; omega)
      rw [this] at d; cases d)
  · exact sX10_forget h.a h.b (fun q => by rw [q] at d1; cases d1) (fun _ _ => k' S h.mono) (fun u q1 q2 q3 => by
      rw [q1, nI_clamp (by omega)] at d2
      exact absurd q3 d2)
  · have g : Fr (swX u) (swA u) S (upX (upX (upX S (289 + 7 * u) 3 (nI 0)) 0 5 (nI 0)) 0 6 (-1)) := Fr.tr (Fr.tr (Fr.upX (Or.inr (Or.inl ⟨rfl, rfl⟩))) (Fr.upX (Or.inl ⟨rfl, Or.inl rfl⟩))) (Fr.upX (Or.inl ⟨rfl, Or.inr rfl⟩))
    have b5 : (upX (upX (upX S (289 + 7 * u) 3 (nI 0)) 0 5 (nI 0)) 0 6 (-1)).1 0 5 = nI 0 := (upX_n (by omega)).trans upX_s
    have b6 : (upX (upX (upX S (289 + 7 * u) 3 (nI 0)) 0 5 (nI 0)) 0 6 (-1)).1 0 6 = -1 := upX_s
    have b3 : (upX (upX (upX S (289 + 7 * u) 3 (nI 0)) 0 5 (nI 0)) 0 6 (-1)).1 (289 + 7 * u) 3 = nI 0 := (upX_n (by omega)).trans ((upX_n (by omega)).trans upX_s)
    generalize upX (upX (upX S (289 + 7 * u) 3 (nI 0)) 0 5 (nI 0)) 0 6 (-1) = S1 at *
    have lo : LoF S S1 := LoF.of g.n (fun a j q => by omega) (fun a q => by omega)
    have r2 : ∀ t, (upI S1 392 u (nI 0)).2.1 392 t = if t = u then nI 0 else S.2.1 392 t := fun t => by
      split
      · rename_i q; rw [q, upI_s]
      · rw [upI_n (by omega), lo.2 392 (by omega)]
    have dbu : dbN S u = 0 := by
      have := (h.g.2 u e2).2.2
      omega
    have hc : cntS (upI S1 392 u (nI 0)) (nI 1) (thN S) ≤ 4 := by
      have c1 := cnt_up r2 (thN S)
      have c2 := cnt_l h.b
      have c3 := h.l4
      rw [if_neg (show ¬ (u < thN S ∧ (nI 0).toInt = (nI 1).toInt) from fun z => absurd z.2 (by decide))] at c1
      omega
    have hH : TH (upI S1 392 u (nI 0)) S1 := by
      refine TH_set (v := 0) (m := esN S u) (f := fun _ => 0) h.1 e2 (Or.inl rfl) (lo.1 389 0 (by omega)) (lo.1 389 7 (by omega)) (fun i => (upI_n (by omega)).trans (lo.2 390 (by omega) i)) (fun i => (upI_n (by omega)).trans (lo.2 391 (by omega) i)) r2 (fun t _ _ j _ => (upI_n (by omega)).trans (lo.2 393 (by omega) _)) (fun t _ _ => (upI_n (by omega)).trans (lo.2 394 (by omega) _)) ?_ (fun z => by omega) (fun t _ _ => (upI_n (by omega)).trans (lo.2 395 (by omega) _)) ?_ hc g b5 b6 b3 (fun z => by omega)
      · rw [upI_n (by omega), lo.2 394 (by omega)]; exact h.un u (by omega)
      · rw [upI_n (by omega), lo.2 395 (by omega)]
        have := (h.g.2 u e2).1
        rw [dbu] at this
        exact this
    have th2 : thN (upI S1 392 u (nI 0)) = thN S := by unfold thN; rw [show (upI S1 392 u (nI 0)).1 389 0 = S.1 389 0 from lo.1 389 0 (by omega)]
    refine ⟨upI S1 392 u (nI 0), hH.1.2.1, by rw [th2]; exact k12, hH.2.1, k _ S1 (fun Q' k' => ?_)⟩
    have et := thN_m lo.t.sm
    have es1 : stN S1 u = stN S u := stN_m lo.t.sm u
    refine sX10_forget (MIa_e lo.t h.a) (MIb_e lo.t h.b) (fun d => ?_) (fun d1 d2 => ?_) (fun u' q1 q2 q3 => ?_)
    · have : isTh (thN S1) t = true := decide_eq_true (by rw [e1, nIt (by omega)]; omega)
      rw [this] at d; cases d
    · rw [e1, nI_clamp (by omega), es1] at d2; exact absurd e3 d2
    · have eu : u' = u := nI_ij (q1.symm.trans e1) (by omega) (by omega)
      subst eu
      show Q' (some (aI (nI (cntS (upI S1 392 u' (nI 0)) (nI 1) (thN (upI S1 392 u' (nI 0))))))) _
      refine k' _ (IV_of (S1 := S1) hH (PG_e (lo.p.tr (EP_of (Fr.upI (px := fun _ _ => False) (pi := fun a => a = 392) rfl).n (fun z => z) (by omega))) (h.2.1.fn g.n (by omega) (fun a j z1 z2 z3 => by omega) (fun a z1 z2 z3 => by omega))) (SH_e (lo.s.tr (ES_of (Fr.upI (px := fun _ _ => False) (pi := fun a => a = 392) rfl).n (fun a z1 z2 => by omega))) (h.2.2.1.fn g.n (fun a j z1 z2 z3 => by omega) (fun a z1 z2 z3 => by omega))) ?_ (Fr.upI (by omega)) ?_ ?_)
      · obtain ⟨l, z1, z2, z3⟩ := h.2.2.2.1
        exact ⟨l, z1.kept (lo.1 389 9 (by omega)) (fun i => (upI_n (by omega)).trans (lo.2 396 (by omega) i)), z2.kept (g.1 1 1 (by omega)) (fun i => g.2.1 2 (by omega) i), z3⟩
      · obtain ⟨B, c1, c2, c3⟩ := MIe_lo h.e lo
        exact ⟨B, ⟨c1.1, fun i hi => ⟨(upI_n (by omega)).trans (c1.2 i hi).1, (upI_n (by omega)).trans (c1.2 i hi).2⟩⟩, fun x hx => (upI_n (by omega)).trans (c2 x hx), c3⟩
      · have : dgN (upI S1 392 u' (nI 0)) = dgN S := by unfold dgN; rw [show (upI S1 392 u' (nI 0)).1 389 7 = S.1 389 7 from lo.1 389 7 (by omega)]
        rw [this]
        exact Nat.le_succ_of_le h.2.2.2.2.2
end I9
