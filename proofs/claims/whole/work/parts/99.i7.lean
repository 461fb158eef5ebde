/-! a call on both: thing, line -/
section I7
variable {sc : SC} {S S1 S2 S3 : ST} {n : Nat}
theorem addT_1 {k t : Nat} {v : Int32} : (addT S k v).2.1 391 t = if t = k then v else S.2.1 391 t := by
  show (upI (upI (upI S 391 k v) 392 k (nI 0)) 395 k (nI 0)).2.1 391 t = _
  rw [upI_n (by omega), upI_n (by omega)]
  split
  · rename_i q; rw [q, upI_s]
  · rw [upI_n (by omega)]
theorem addT_2 {k t : Nat} {v : Int32} : (addT S k v).2.1 392 t = if t = k then nI 0 else S.2.1 392 t := by
  show (upI (upI (upI S 391 k v) 392 k (nI 0)) 395 k (nI 0)).2.1 392 t = _
  rw [upI_n (by omega)]
  split
  · rename_i q; rw [q, upI_s]
  · rw [upI_n (by omega), upI_n (by omega)]
theorem addT_5 {k t : Nat} {v : Int32} : (addT S k v).2.1 395 t = if t = k then nI 0 else S.2.1 395 t := by
  show (upI (upI (upI S 391 k v) 392 k (nI 0)) 395 k (nI 0)).2.1 395 t = _
  split
  · rename_i q; rw [q, upI_s]
  · rw [upI_n (by omega), upI_n (by omega), upI_n (by omega)]
theorem addT_r {k a i : Nat} {v : Int32} (h1 : ¬ a = 391) (h2 : ¬ a = 392) (h3 : ¬ a = 395) : (addT S k v).2.1 a i = S.2.1 a i := by
  show (upI (upI (upI S 391 k v) 392 k (nI 0)) 395 k (nI 0)).2.1 a i = _
  rw [upI_n (by omega), upI_n (by omega), upI_n (by omega)]
theorem addT_f {k : Nat} {v : Int32} : Fr (fun a j => a = 389 ∧ j = 0) (fun a => a = 391 ∨ a = 392 ∨ a = 395) S (addT S k v) := Fr.tr (Fr.tr (Fr.tr (Fr.upI (Or.inl rfl)) (Fr.upI (Or.inr (Or.inl rfl)))) (Fr.upI (Or.inr (Or.inr rfl)))) (Fr.upX ⟨rfl, rfl⟩)
theorem IV_add {k m : Nat} {f f' : Nat → Int32} (h : IV S n) (ek : thN S = k) (hk : k < 12) (hm : 1 ≤ m ∧ m ≤ 16) (hby : ∀ j, j < m → isBy (f j)) (g9 : Fr (aX k) (aA k) S S1) (b0 : S1.1 0 3 = nI (k + 1)) (b1 : LnIs S1 (289 + 7 * k) f' m) (b2 : PlIs S1 (289 + 7 * k) f' m) (ef : ∀ j, j < m → f' j = f j)
    (g3 : Fr tX (fun _ => False) S1 S3) (tp : TP S3 S1) : IV (addT (upR S3 390 (16 * k) m f) k (nI m)) (n + 1) := by
  have lo : LoF S S1 := LoF.of g9.n (fun a j q => by omega) (fun a q => by omega)
  have g : Fr (fun a j => a = 389 ∧ (j = 0 ∨ j = 9)) (fun a => a = 390 ∨ a = 391 ∨ a = 392 ∨ a = 395) S1 (addT (upR S3 390 (16 * k) m f) k (nI m)) := ((g3.mono (fun a j q => ⟨q.1, Or.inr q.2⟩) (fun a q => by cases q)).tr (Fr.upR (Or.inl rfl))).tr (addT_f.mono (fun a j q => ⟨q.1, Or.inl q.2⟩) (fun a q => by omega))
  have w : ∀ a, 389 ≤ a → ∀ i, S3.2.1 a i = S.2.1 a i := fun a ha i => (g3.2.1 a (fun z => z) i).trans (lo.2 a (by omega) i)
  have e2 : EP S (addT (upR S3 390 (16 * k) m f) k (nI m)) := lo.p.tr (EP_of g.n (by omega) (by omega))
  have e3 : ES S (addT (upR S3 390 (16 * k) m f) k (nI m)) := lo.s.tr (ES_of g.n (fun a q1 q2 => by omega))
  have r0 : ∀ i, (addT (upR S3 390 (16 * k) m f) k (nI m)).2.1 390 i = if 16 * k ≤ i ∧ i < 16 * k + m then f (i - 16 * k) else S.2.1 390 i := fun i => by
    rw [addT_r (by omega) (by omega) (by omega)]
    split
    · rename_i q; rw [upR_in q]
    · rw [upR_n (by omega), w 390 (by omega)]
  have a7 : (addT (upR S3 390 (16 * k) m f) k (nI m)).1 389 7 = S.1 389 7 := (g.1 389 7 (by omega)).trans (lo.1 389 7 (by omega))
  have r1 : ∀ t, (addT (upR S3 390 (16 * k) m f) k (nI m)).2.1 391 t = if t = k then nI m else S.2.1 391 t := fun t => by rw [addT_1, upR_n (by omega), w 391 (by omega)]
  have r2 : ∀ t, (addT (upR S3 390 (16 * k) m f) k (nI m)).2.1 392 t = if t = k then nI 0 else S.2.1 392 t := fun t => by rw [addT_2, upR_n (by omega), w 392 (by omega)]
  have r5 : ∀ t, (addT (upR S3 390 (16 * k) m f) k (nI m)).2.1 395 t = if t = k then nI 0 else S.2.1 395 t := fun t => by rw [addT_5, upR_n (by omega), w 395 (by omega)]
  refine IV_of (S1 := S1) (TH_add h.1 ek hk hm hby upX_s a7 r0 r1 r2 (fun i => by rw [addT_r (by omega) (by omega) (by omega), upR_n (by omega), w 393 (by omega)]) (fun i => by rw [addT_r (by omega) (by omega) (by omega), upR_n (by omega), w 394 (by omega)]) r5 g9 b0 b1 b2 ef) (PG_e e2 (h.2.1.fn g9.n (by omega) (fun a j q1 q2 q3 => by omega) (fun a q1 q2 q3 => by omega))) (SH_e e3 (h.2.2.1.fn g9.n (fun a j q1 q2 q3 => by omega) (fun a q1 q2 q3 => by omega))) ?_ (HiF.of g (fun a j q => by omega) (fun a q => by omega)) ?_ ?_
  · obtain ⟨l, z1, z2⟩ := tp
    exact ⟨l, z1.kept (upX_n (by omega)) (fun i => by rw [addT_r (by omega) (by omega) (by omega), upR_n (by omega)]), z2⟩
  · obtain ⟨B, c1, c2, c3⟩ := MIe_lo h.e lo
    exact ⟨B, ⟨(g.1 389 18 (by omega)).trans c1.1, fun i hi => ⟨(g.2.1 401 (by omega) i).trans (c1.2 i hi).1, (g.2.1 402 (by omega) i).trans (c1.2 i hi).2⟩⟩, fun x hx => (g.2.1 403 (by omega) x).trans (c2 x hx), c3⟩
  · have : dgN (addT (upR S3 390 (16 * k) m f) k (nI m)) = dgN S := by unfold dgN; rw [a7]
    rw [this]
    exact Nat.le_succ_of_le h.2.2.2.2.2
theorem PA_thing (h : IV S n) : PA sc mX9_thing mX10_thing [] S n := by
  intro Q k
  obtain ⟨l, z1, z2, z3, z4⟩ := h.2.2.2.1
  have k12 := h.a.1.2
  refine sX9_thing z2 z4 z3 k12 h.th.1 (fun c => k _ _ (fun Q' k' => ?_)) (fun c1 c2 => k _ _ (fun Q' k' => ?_)) (fun c1 c2 S1 g1 b0 b1 b2 => k _ _ (fun Q' k' => ?_))
  · refine sX10_thing (l := l) (k := thN S) (z1.kept (upX_n (by omega)) (fun i => rfl)) z4 k12 ((upX_n (by omega)).trans h.a.1.1) (fun _ => k' _ ?_) (fun d => absurd d c) (fun d => absurd d c)
    exact IV_t h (Fr.upX (Or.inr ⟨rfl, rfl⟩)) (Fr.upX ⟨rfl, Or.inl rfl⟩) (TP_nil upX_s upX_s)
  · refine sX10_thing (l := l) (k := thN S) (z1.kept (upX_n (by omega)) (fun i => rfl)) z4 k12 ((upX_n (by omega)).trans h.a.1.1) (fun d => absurd c1 d) (fun _ _ => k' _ ?_) (fun _ d => by omega)
    exact IV_t h (Fr.upX (Or.inr ⟨rfl, rfl⟩)) (Fr.upX ⟨rfl, Or.inl rfl⟩) (TP_nil upX_s upX_s)
  · have g9 : Fr (aX (thN S)) (aA (thN S)) S (upX S1 1 1 (nI 0)) := (g1.mono (fun a j q => Or.inl q) (fun a q => Or.inl q)).tr (Fr.upX (Or.inr (Or.inr ⟨rfl, rfl⟩)))
    have lo : LoF S (upX S1 1 1 (nI 0)) := LoF.of g9.n (fun a j q => by omega) (fun a q => by omega)
    refine sX10_thing (l := l) (k := thN S) (z1.kept (lo.1 389 9 (by omega)) (fun i => lo.2 396 (by omega) i)) z4 k12 ((lo.1 389 0 (by omega)).trans h.a.1.1) (fun d => absurd c1 d) (fun _ d => by omega) (fun _ _ => k' _ ?_)
    have ef : ∀ j, j < l.length → l.getD j 0 = (upX S1 1 1 (nI 0)).2.1 396 j := fun j hj => ((lo.2 396 (by omega) j).trans (z1.2 j hj)).symm
    refine IV_add h rfl c2 c1 (fun j hj => by rw [← ef j hj]; exact z3 _ (getD_memI hj)) g9 ((upX_n (by omega)).trans b0) (b1.fr (px := fun a j => a = 1 ∧ j = 1) (pi := fun _ => False) (Fr.upX ⟨rfl, rfl⟩) (by omega) (fun z => z)) (b2.fr (px := fun a j => a = 1 ∧ j = 1) (pi := fun _ => False) (Fr.upX ⟨rfl, rfl⟩) (fun z => z)) ef (Fr.upX ⟨rfl, rfl⟩) (TP_nil upX_s upX_s)
theorem allIt_m {b : Nat} (h : ∀ i, S1.2.1 412 i = S.2.1 412 i) : ∀ d i, allIt S1 b d i = allIt S b d i
  | 0, _ => rfl
  | d + 1, i => by unfold allIt; rw [h, allIt_m h d (i + 1)]
end I7
