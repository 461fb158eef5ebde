/-! the invariant: what the words of the model depend on -/
/-- the cells that tell the things, the programs, the sheets -/
def tM (S : ST) : ST := (fun a j => if a = 389 ∧ (j = 0 ∨ j = 7) then S.1 389 j else 0, fun a j => if 390 ≤ a ∧ a ≤ 395 then S.2.1 a j else 0, fun _ => none)
def pM (S : ST) : ST := (fun a j => if a = 389 ∧ j = 28 then S.1 389 j else 0, fun a j => if a = 408 then S.2.1 a j else 0, fun _ => none)
def sM (S : ST) : ST := (fun _ _ => 0, fun a j => if 410 ≤ a ∧ a ≤ 412 then S.2.1 a j else 0, fun _ => none)
def ET (S S' : ST) : Prop := tM S' = tM S
def EP (S S' : ST) : Prop := pM S' = pM S
def ES (S S' : ST) : Prop := sM S' = sM S
def LoF (S S' : ST) : Prop := FrN (fun a _ => a < 389) (fun a => a < 389) S S'
def HiF (S S' : ST) : Prop := Fr (fun a _ => 389 ≤ a) (fun a => 389 ≤ a) S S'
section I1
variable {S S' S1 S2 A A' B B' : ST}
theorem ET_of {px : Nat → Nat → Prop} {pi : Nat → Prop} (g : FrN px pi S S') (h0 : ¬ px 389 0) (h7 : ¬ px 389 7) (h : ∀ a, 390 ≤ a → a ≤ 395 → ¬ pi a) : ET S S' := by
  unfold ET tM
  refine Prod.ext ?_ (Prod.ext ?_ rfl)
  · funext a j
    dsimp only
    split
    · rename_i q
      rcases q.2 with z | z
      · rw [z]; exact g.1 389 0 h0
      · rw [z]; exact g.1 389 7 h7
    · rfl
  · funext a j
    dsimp only
    split
    · rename_i q
      exact g.2 a (h a q.1 q.2) j
    · rfl
theorem EP_of {px : Nat → Nat → Prop} {pi : Nat → Prop} (g : FrN px pi S S') (h0 : ¬ px 389 28) (h : ¬ pi 408) : EP S S' := by
  unfold EP pM
  refine Prod.ext ?_ (Prod.ext ?_ rfl)
  · funext a j
    dsimp only
    split
    · rename_i q
      rw [q.2]; exact g.1 389 28 h0
    · rfl
  · funext a j
    dsimp only
    split
    · rename_i q
      rw [q]; exact g.2 408 h j
    · rfl
theorem ES_of {px : Nat → Nat → Prop} {pi : Nat → Prop} (g : FrN px pi S S') (h : ∀ a, 410 ≤ a → a ≤ 412 → ¬ pi a) : ES S S' := by
  unfold ES sM
  refine Prod.ext rfl (Prod.ext ?_ rfl)
  funext a j
  dsimp only
  split
  · rename_i q
    exact g.2 a (h a q.1 q.2) j
  · rfl
theorem LoF.t (g : LoF S S') : ET S S' := ET_of g (by omega) (by omega) (fun a q1 q2 => by omega)
theorem LoF.p (g : LoF S S') : EP S S' := EP_of g (by omega) (by omega)
theorem LoF.s (g : LoF S S') : ES S S' := ES_of g (fun a q1 q2 => by omega)
theorem LoF.of {px : Nat → Nat → Prop} {pi : Nat → Prop} (g : FrN px pi S S') (h1 : ∀ a j, px a j → a < 389) (h2 : ∀ a, pi a → a < 389) : LoF S S' := ⟨fun a j q => g.1 a j (fun z => q (h1 a j z)), fun a q j => g.2 a (fun z => q (h2 a z)) j⟩
theorem HiF.of {px : Nat → Nat → Prop} {pi : Nat → Prop} (g : Fr px pi S S') (h1 : ∀ a j, px a j → 389 ≤ a) (h2 : ∀ a, pi a → 389 ≤ a) : HiF S S' := g.mono h1 h2
theorem ET.tr (h : ET S S1) (g : ET S1 S2) : ET S S2 := Eq.trans g h
theorem EP.tr (h : EP S S1) (g : EP S1 S2) : EP S S2 := Eq.trans g h
theorem ES.tr (h : ES S S1) (g : ES S1 S2) : ES S S2 := Eq.trans g h
theorem ET.sm (h : ET S S') : Sm S S' := by
  refine ⟨(congrArg (fun X => X.1 389 0) h : (tM S').1 389 0 = (tM S).1 389 0), fun a ha j => ?_⟩
  rcases (show a = 390 ∨ a = 391 ∨ a = 392 ∨ a = 393 ∨ a = 394 ∨ a = 395 by omega) with rfl | rfl | rfl | rfl | rfl | rfl
  · exact (congrArg (fun X => X.2.1 390 j) h : (tM S').2.1 390 j = (tM S).2.1 390 j)
  · exact (congrArg (fun X => X.2.1 391 j) h : (tM S').2.1 391 j = (tM S).2.1 391 j)
  · exact (congrArg (fun X => X.2.1 392 j) h : (tM S').2.1 392 j = (tM S).2.1 392 j)
  · exact (congrArg (fun X => X.2.1 393 j) h : (tM S').2.1 393 j = (tM S).2.1 393 j)
  · exact (congrArg (fun X => X.2.1 394 j) h : (tM S').2.1 394 j = (tM S).2.1 394 j)
  · exact (congrArg (fun X => X.2.1 395 j) h : (tM S').2.1 395 j = (tM S).2.1 395 j)
theorem shL_m (h : Sm S S') (but : Nat) : shL S' but = shL S but := by
  unfold shL
  rw [thN_m h, shF_eq (h.2 392 (by omega))]
theorem neL_m (h : Sm S S') : neA S' (shL S' 0) = neA S (shL S 0) := by rw [shL_m h, neA_w (SpW_m h)]
theorem nr0_m (h : Sm S S') : nr0 S' = nr0 S := by unfold nr0; rw [neL_m h]
theorem lackS_m (h : Sm S S') (v : Int32) : lackS S' v = lackS S v := by unfold lackS; rw [shL_m h, neA_w (SpW_m h)]
theorem cntS_m (h : Sm S S') (q : Int32) : ∀ t, cntS S' q t = cntS S q t
  | 0 => rfl
  | t + 1 => by unfold cntS; rw [cntS_m h q t, h.2 392 (by omega)]
theorem seG_m (h : Sm S S') (N : List (List Nat)) : ∀ d t b l, seG S' N d t b l = seG S N d t b l
  | 0, _, _, _ => rfl
  | d + 1, t, b, l => by unfold seG; rw [stN_m h, eF_w (SpW_m h), seG_m h N d, seG_m h N d]
theorem alB_m (h : Sm S S') : ∀ t, alB S' t = alB S t
  | 0 => rfl
  | t + 1 => by unfold alB; rw [alB_m h t, stN_m h]
theorem ftB_m (h : Sm S S') (but : Nat) : ftB S' but = ftB S but := by
  unfold ftB
  rw [shL_m h, fitN_w (SpW_m h), fitN_w (SpW_m h), fitN_w (SpW_m h)]
theorem slG_m (h : Sm S S') (all : Nat) : ∀ d but b, slG S' all d but b = slG S all d but b
  | 0, _, _ => rfl
  | d + 1, but, b => by unfold slG; rw [ftB_m h, slG_m h all d, slG_m h all d]
theorem enl_m (h : Sm S S') (t : Nat) : enl S' t = enl S t := by unfold enl; rw [enB_w (SpW_m h), esN_w (SpW_m h)]
theorem otG_m (h : Sm S S') (ps : List Nat) : ∀ t, otG S' ps t = otG S ps t
  | 0 => rfl
  | t + 1 => by unfold otG otB; rw [otG_m h ps t, stN_m h, enl_m h, lnB_w (SpW_m h), szN_w (SpW_m h)]
theorem bkC_m (h : Sm S S') (dg : Nat) : ∀ t, bkC S' dg t = bkC S dg t
  | 0 => rfl
  | t + 1 => by unfold bkC dbN; rw [bkC_m h dg t, h.2 395 (by omega)]
theorem slips_m (h : Sm S S') : sp_slips S' = sp_slips S := by unfold sp_slips; rw [thN_m h, alB_m h, slG_m h]
theorem fitting_m (h : Sm S S') (n : Int32) : sp_fitting S' n = sp_fitting S n := by
  unfold sp_fitting
  rw [shL_m h, fitN_w (SpW_m h), fitN_w (SpW_m h), fitN_w (SpW_m h), fitN_w (SpW_m h)]
theorem shortest_m (h : Sm S S') (w : Int32) : sp_shortest S' w = sp_shortest S w := by unfold sp_shortest; rw [lackS_m h, nr0_m h]
theorem paper_m (h : Sm S S') (t i : Int32) : sp_paper S' t i = sp_paper S t i := by unfold sp_paper outV; rw [thN_m h, lackS_m h, nr0_m h, lnB_w (SpW_m h), szN_w (SpW_m h)]
theorem differs_m (h : Sm S S') (t : Int32) : sp_differs S' t = sp_differs S t := by unfold sp_differs; rw [thN_m h, lackS_m h, neL_m h, eF_w (SpW_m h)]
theorem settle_m (h : Sm S S') : sp_settle S' = sp_settle S := by unfold sp_settle; rw [thN_m h, lackS_m h, neL_m h, seG_m h]
theorem odd_m (h : Sm S S') (t : Int32) : sp_odd S' t = sp_odd S t := by unfold sp_odd; rw [thN_m h, lackS_m h, nr0_m h, oddB_m h]
theorem otherwise_m (h : Sm S S') : sp_otherwise S' = sp_otherwise S := by unfold sp_otherwise; rw [thN_m h, lackS_m h, nr0_m h, otG_m h]
theorem count_m (h : Sm S S') (hp : EP S S') (w : Int32) : sp_count S' w = sp_count S w := by
  have e : kpN S' = kpN S := (congrArg kpN hp : kpN (pM S') = kpN (pM S))
  unfold sp_count
  rw [thN_m h, cntS_m h, e]
theorem byteAt_m (h : ET S S') (t i : Int32) : sp_byteAt S' t i = sp_byteAt S t i := (congrArg (fun X => sp_byteAt X t i) h : sp_byteAt (tM S') t i = sp_byteAt (tM S) t i)
theorem place_m (h : ET S S') (t i : Int32) : sp_place S' t i = sp_place S t i := (congrArg (fun X => sp_place X t i) h : sp_place (tM S') t i = sp_place (tM S) t i)
theorem end_m (h : ET S S') (t i : Int32) : sp_end S' t i = sp_end S t i := (congrArg (fun X => sp_end X t i) h : sp_end (tM S') t i = sp_end (tM S) t i)
theorem state_m (h : ET S S') (t : Int32) : sp_state S' t = sp_state S t := (congrArg (fun X => sp_state X t) h : sp_state (tM S') t = sp_state (tM S) t)
theorem made_m (h : ET S S') (t c i : Int32) : sp_made S' t c i = sp_made S t c i := (congrArg (fun X => sp_made X t c i) h : sp_made (tM S') t c i = sp_made (tM S) t c i)
theorem kept_m (h : EP S S') (p w : Int32) : sp_kept S' p w = sp_kept S p w := (congrArg (fun X => sp_kept X p w) h : sp_kept (pM S') p w = sp_kept (pM S) p w)
theorem run_m (h : ET S S') (hp : EP S S') (p t i : Int32) : sp_run S' p t i = sp_run S p t i := by
  have e : kpN S' = kpN S := (congrArg kpN hp : kpN (pM S') = kpN (pM S))
  have e2 : ∀ b, prL S' 408 b = prL S 408 b := fun b => (congrArg (fun X => prL X 408 b) hp : prL (pM S') 408 b = prL (pM S) 408 b)
  unfold sp_run
  rw [e, e2, thN_m h.sm, lnB_w (SpW_m h.sm), szN_w (SpW_m h.sm)]
/-- the parts of the invariant: A tells the words of the model, B the class's cells -/
def UNe (A : ST) : Prop := ∀ t, t < 12 → A.2.1 394 t = nI (esN A t) ∧ esN A t ≤ 35
def TH (A B : ST) : Prop := (MIa A ∧ MIb A ∧ MIg A ∧ (shL A 0).length ≤ 4 ∧ UNe A) ∧ CTh A B ∧ CDg A B ∧ CIf A B ∧ CIs A B
def PG (A B : ST) : Prop := MId A ∧ CPr A B
def SH (A B : ST) : Prop := MIc A ∧ CSh A B
def TP (A B : ST) : Prop := ∃ l, TapIs A l ∧ RwIs B 1 l ∧ LBy l ∧ l.length ≤ 60
def IV (S : ST) (n : Nat) : Prop := TH S S ∧ PG S S ∧ SH S S ∧ TP S S ∧ MIe S ∧ dgN S ≤ n
theorem MIa_e (h : ET A A') (q : MIa A) : MIa A' := by
  have q : MIa (tM A) := q
  show MIa (tM A')
  rw [show tM A' = tM A from h]; exact q
theorem MIb_e (h : ET A A') (q : MIb A) : MIb A' := by
  have q : MIb (tM A) := q
  show MIb (tM A')
  rw [show tM A' = tM A from h]; exact q
theorem MIg_e (h : ET A A') (q : MIg A) : MIg A' := by
  have q : MIg (tM A) := q
  show MIg (tM A')
  rw [show tM A' = tM A from h]; exact q
theorem UNe_e (h : ET A A') (q : UNe A) : UNe A' := by
  have q : UNe (tM A) := q
  show UNe (tM A')
  rw [show tM A' = tM A from h]; exact q
theorem CTh_e (h : ET A A') (q : CTh A B) : CTh A' B := by
  have q : CTh (tM A) B := q
  show CTh (tM A') B
  rw [show tM A' = tM A from h]; exact q
theorem CDg_e (h : ET A A') (q : CDg A B) : CDg A' B := by
  have q : CDg (tM A) B := q
  show CDg (tM A') B
  rw [show tM A' = tM A from h]; exact q
theorem SpT_e {Z : ST} {ts : List Nat} (h : ET A A') (q : SpT Z A ts) : SpT Z A' ts := by
  have q : SpT Z (tM A) ts := q
  show SpT Z (tM A') ts
  rw [show tM A' = tM A from h]; exact q
theorem FtZ_e (h : ET A A') (q : FtZ A B) : FtZ A' B := by
  obtain ⟨Z, z1, z2, z3, z4⟩ := q
  have e := shL_m h.sm 0
  refine ⟨Z, ?_, ?_, ?_, ?_⟩
  · rw [e]; exact SpT_e h z1
  · rw [e]; exact z2
  · rw [e]; exact z3
  · rw [e]; exact z4
theorem CIf_e (h : ET A A') (q : CIf A B) : CIf A' B := by
  refine ⟨q.1, ?_⟩
  rcases q.2 with z | ⟨z1, z2, z3⟩
  · exact Or.inl z
  · exact Or.inr ⟨z1, by rw [shL_m h.sm]; exact z2, FtZ_e h z3⟩
theorem CIs_e (h : ET A A') (q : CIs A B) : CIs A' B := by
  unfold CIs at *
  rw [neL_m h.sm, shL_m h.sm, slips_m h.sm]
  exact q
theorem TH_e (h : ET A A') (q : TH A B) : TH A' B := ⟨⟨MIa_e h q.1.1, MIb_e h q.1.2.1, MIg_e h q.1.2.2.1, by rw [shL_m h.sm]; exact q.1.2.2.2.1, UNe_e h q.1.2.2.2.2⟩, CTh_e h q.2.1, CDg_e h q.2.2.1, CIf_e h q.2.2.2.1, CIs_e h q.2.2.2.2⟩
theorem PG_e (h : EP A A') (q : PG A B) : PG A' B := by
  have q : PG (pM A) B := q
  show PG (pM A') B
  rw [show pM A' = pM A from h]; exact q
theorem SH_e (h : ES A A') (q : SH A B) : SH A' B := by
  have q : SH (sM A) B := q
  show SH (sM A') B
  rw [show sM A' = sM A from h]; exact q
theorem dgN_e (h : ET A A') : dgN A' = dgN A := (congrArg dgN h : dgN (tM A') = dgN (tM A))
/-- the class's cells -/
theorem CDg.fn {px : Nat → Nat → Prop} {pi : Nat → Prop} (h : CDg A B) (g : FrN px pi B B') (h0 : ¬ px 0 9) (h1 : ¬ pi 281) : CDg A B' := ⟨(g.1 0 9 h0).trans h.1, fun k hk => by
  obtain ⟨v, v1, v2, v3⟩ := h.2 k hk
  exact ⟨v, v1, (g.2 281 h1 k).trans v2, v3⟩⟩
theorem PG.fn {px : Nat → Nat → Prop} {pi : Nat → Prop} (h : PG A B) (g : FrN px pi B B') (h0 : ¬ px 0 11) (h1 : ∀ a j, 373 ≤ a → a ≤ 380 → ¬ px a j) (h2 : ∀ a, 373 ≤ a → a ≤ 380 → ¬ pi a) : PG A B' := by
  have k4 := h.1.1.2
  refine ⟨h.1, (g.1 0 11 h0).trans h.2.1, fun p hp => ?_⟩
  obtain ⟨z1, z2, z3⟩ := h.2.2 p hp
  exact ⟨⟨(g.1 _ _ (h1 _ _ (by omega) (by omega))).trans z1.1, z1.2.1, fun i hi => (g.2 _ (h2 _ (by omega) (by omega)) i).trans (z1.2.2 i hi)⟩, z2, z3⟩
theorem SH.fn {px : Nat → Nat → Prop} {pi : Nat → Prop} (h : SH A B) (g : FrN px pi B B') (h1 : ∀ a j, 381 ≤ a → a ≤ 388 → ¬ px a j) (h2 : ∀ a, 381 ≤ a → a ≤ 388 → ¬ pi a) : SH A B' := by
  refine ⟨h.1, fun k hk => ?_⟩
  obtain ⟨z1, z2, z3⟩ := h.2 k hk
  exact ⟨(g.1 _ _ (h1 _ _ (by omega) (by omega))).trans z1, fun q => (g.1 _ _ (h1 _ _ (by omega) (by omega))).trans (z2 q), fun i hi => (g.2 _ (h2 _ (by omega) (by omega)) i).trans (z3 i hi)⟩
theorem TH.fn {px : Nat → Nat → Prop} {pi : Nat → Prop} (h : TH A B) (g : FrN px pi B B') (h0 : ¬ px 0 3) (h1 : ∀ a j, 289 ≤ a → a ≤ 372 → ¬ px a j) (h2 : ∀ a, 289 ≤ a → a ≤ 372 → ¬ pi a) (h9 : ¬ px 0 9) (h3 : ¬ pi 281) (hF : CIf A B') (hs : CIs A B') : TH A B' := ⟨h.1, h.2.1.fn g h0 h1 h2, h.2.2.1.fn g h9 h3, hF, hs⟩
theorem TH.hi (h : TH A B) (g : HiF B B') : TH A B' := h.fn g.n (by omega) (fun a j q1 q2 => by omega) (fun a q1 q2 => by omega) (by omega) (by omega) (h.2.2.2.1.fx h.1.1.1.2 g (by omega) (fun a j q => by omega) (fun a q => by omega)) (h.2.2.2.2.fn (g.1 0 6 (by omega)))
theorem PG.hi (h : PG A B) (g : HiF B B') : PG A B' := h.fn g.n (by omega) (fun a j q1 q2 => by omega) (fun a q1 q2 => by omega)
theorem SH.hi (h : SH A B) (g : HiF B B') : SH A B' := h.fn g.n (fun a j q1 q2 => by omega) (fun a q1 q2 => by omega)
theorem TP.hi (h : TP A B) (g : HiF B B') : TP A B' := by
  obtain ⟨l, z1, z2, z3⟩ := h
  exact ⟨l, z1, z2.kept (g.1 1 1 (by omega)) (fun i => g.2.1 2 (by omega) i), z3⟩
theorem TP.lo (h : TP A B) (g : FrN (fun a _ => a < 389) (fun a => a < 389) A A') : TP A' B := by
  obtain ⟨l, z1, z2, z3⟩ := h
  exact ⟨l, z1.kept (g.1 389 9 (by omega)) (fun i => g.2 396 (by omega) i), z2, z3⟩
theorem MIe_lo (h : MIe S) (g : LoF S S') : MIe S' := by
  obtain ⟨B, b1, b2, b3⟩ := h
  exact ⟨B, ⟨(g.1 389 18 (by omega)).trans b1.1, fun i hi => ⟨(g.2 401 (by omega) i).trans (b1.2 i hi).1, (g.2 402 (by omega) i).trans (b1.2 i hi).2⟩⟩, fun x hx => (g.2 403 (by omega) x).trans (b2 x hx), b3⟩
/-- after a run of the class and one of the model: all that is left is the invariant on both -/
theorem IV_of {n : Nat} (h1 : TH S2 S1) (h2 : PG S2 S1) (h3 : SH S2 S1) (h4 : TP S2 S1) (g : HiF S1 S2) (he : MIe S2) (hn : dgN S2 ≤ n) : IV S2 n := ⟨h1.hi g, h2.hi g, h3.hi g, h4.hi g, he, hn⟩
end I1
