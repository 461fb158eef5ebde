/-! rules of G for calls, and how a contract comes from a walk -/
def gSl (av : List AV) : List (Option AV) := av.flatMap fun v => match v with
  | .inr (.inl _) => [some v, none]
  | _ => [some v]
def gEnt (n : Nat) (av : List AV) : List (Option AV) := gSl av ++ List.replicate (n - (gSl av).length) none
theorem lpr_none (f : Cf) : ∀ (k j : Nat), lpr f j (List.replicate k none) = []
  | 0, _ => rfl
  | k + 1, j => by
    show lpr f (j + 1) (List.replicate k none) = []
    exact lpr_none f k (j + 1)
theorem lpr_ent (f : Cf) (k : Nat) : ∀ (av : List AV) (j : Nat), lpr f j (gSl av ++ List.replicate k none) = lv_args j (av.map (cvv f))
  | [], j => lpr_none f k j
  | .inl x :: r, j => by
    show (j, cvv f (.inl x)) :: lpr f (j + 1) (gSl r ++ List.replicate k none) = (j, cvv f (.inl x)) :: lv_args (j + 1) (r.map (cvv f))
    rw [lpr_ent f k r (j + 1)]
  | .inr (.inl x) :: r, j => by
    show (j, cvv f (.inr (.inl x))) :: lpr f (j + 1 + 1) (gSl r ++ List.replicate k none) = (j, cvv f (.inr (.inl x))) :: lv_args (j + 2) (r.map (cvv f))
    rw [lpr_ent f k r (j + 1 + 1)]
  | .inr (.inr (.inl x)) :: r, j => by
    show (j, cvv f (.inr (.inr (.inl x)))) :: lpr f (j + 1) (gSl r ++ List.replicate k none) = (j, cvv f (.inr (.inr (.inl x)))) :: lv_args (j + 1) (r.map (cvv f))
    rw [lpr_ent f k r (j + 1)]
  | .inr (.inr (.inr 0)) :: r, j => by
    show (j, cvv f (.inr (.inr (.inr 0)))) :: lpr f (j + 1) (gSl r ++ List.replicate k none) = (j, cvv f (.inr (.inr (.inr 0)))) :: lv_args (j + 1) (r.map (cvv f))
    rw [lpr_ent f k r (j + 1)]
  | .inr (.inr (.inr (x + 1))) :: r, j => by
    show (j, cvv f (.inr (.inr (.inr (x + 1))))) :: lpr f (j + 1) (gSl r ++ List.replicate k none) = (j, cvv f (.inr (.inr (.inr (x + 1))))) :: lv_args (j + 1) (r.map (cvv f))
    rw [lpr_ent f k r (j + 1)]
theorem gSl_len (f : Cf) : ∀ av : List AV, (lg_sl (av.map (cvv f))).length = (gSl av).length
  | [] => rfl
  | .inl x :: r => by
    show (lg_sl (r.map (cvv f))).length + 1 = (gSl r).length + 1
    rw [gSl_len f r]
  | .inr (.inl x) :: r => by
    show (lg_sl (r.map (cvv f))).length + 1 + 1 = (gSl r).length + 1 + 1
    rw [gSl_len f r]
  | .inr (.inr (.inl x)) :: r => by
    show (lg_sl (r.map (cvv f))).length + 1 = (gSl r).length + 1
    rw [gSl_len f r]
  | .inr (.inr (.inr 0)) :: r => by
    show (lg_sl (r.map (cvv f))).length + 1 = (gSl r).length + 1
    rw [gSl_len f r]
  | .inr (.inr (.inr (x + 1))) :: r => by
    show (lg_sl (r.map (cvv f))).length + 1 = (gSl r).length + 1
    rw [gSl_len f r]
/-- a contract out of a walk -/
theorem CT_of {sc : SC} {z : MI} {av : List AV} {M : HM} {Q : Option AV → HM → Prop} (hp : plainName z.1.cls = true) (hL : (gSl av).length ≤ z.2.2.1) (hn : M.2.1 ≤ M.2.2.2.1) (hs : M.2.2.1 ≤ M.2.2.2.2) (k : G sc z 0 (gEnt z.2.2.1 av) [] M Q) : CT sc z av M Q := by
  intro f l
  refine Met.ofW (cc := z.2.1) (maxL := z.2.2.1) (ret := z.2.2.2.1) hp rfl ?_
  intro p e s m args below meth c s₁ B hml hv
  obtain ⟨rfl, hM, hWd⟩ := hv
  have hts := atoms_spec (ws := gW z) B.pre
  have hown : s.vm.findClass z.1.cls = some m.cls := findClass_of_methodNamed B.named
  rw [lg_entry_eq]
  have hM1 := hM.1
  refine k f l p e s m _ below meth c s.heap [] 0 0 _ _ _ ⟨B.exec, B.bytes, hml, hown, fun w h => hts w (List.mem_cons_of_mem _ h), B.returns, B.notSynchronized, (name_of_methodNamed B.named B.method).1⟩ hWd hM va_S.rf ?_ (by omega) (by omega) (by omega)
  have h1 := lv_entry (av.map (cvv f)) (n := z.2.2.1) (by rw [gSl_len]; exact hL)
  unfold gEnt
  rw [lpr_ent]
  exact h1
/-- the callee's own words -/
def mB (z : MI) (n : Nat) : Prop := Cond.initialized z.1.cls ∈ gTs ∧ Cond.code z.1 z.2.1 z.2.2.1 z.2.2.2.1 ∈ gTs ∧ (z.1.cls ≠ "java/lang/invoke/MethodHandle" ∧ z.1.cls ≠ "java/lang/invoke/VarHandle") ∧ (parseMethodDescriptor z.1.desc).map (fun d => d.parameters.length) = some n
def mS (z : MI) (n : Nat) : Prop := Cond.static z.1 ∈ gTs ∧ mB z n
def mV (z : MI) (n : Nat) : Prop := (Cond.instanceMethod z.1 ∈ gTs ∧ Cond.selects z.1.cls z.1 z.1 ∈ gTs) ∧ mB z n
def mI (z : MI) (n : Nat) : Prop := (Cond.instanceMethod z.1 ∈ gTs ∧ z.1.name = "<init>") ∧ (mB z n ∧ z.2.2.2.1 = none)
/-- a call's room, and its link -/
def lkB (y z : MI) (i : Nat) : Prop := Cond.methodLink y.1.cls i z.1 ∈ gTs ∧ (z.2.2.2.2.1 + 1 ≤ y.2.2.2.2.1 ∧ 8 + (z.2.2.1 + 11) + z.2.2.2.2.2 ≤ y.2.2.2.2.2)
def lkN (y z : MI) (i : Nat) : Prop := (y.1.cls, i, z.1, RX9) ∈ gNest ∧ (z.2.2.2.2.1 + 1 ≤ y.2.2.2.2.1 ∧ 8 + (z.2.2.1 + 11) + z.2.2.2.2.2 ≤ y.2.2.2.2.2)
theorem mB_spec {z : MI} {n : Nat} (h : mB z n) : Cond.initialized z.1.cls ∈ gTs ∧ Cond.code z.1 z.2.1 z.2.2.1 z.2.2.2.1 ∈ gTs ∧ (z.1.cls ≠ "java/lang/invoke/MethodHandle" ∧ z.1.cls ≠ "java/lang/invoke/VarHandle") ∧ (parseMethodDescriptor z.1.desc).map (fun d => d.parameters.length) = some n := h
theorem gW_good {z : MI} (h : Cond.code z.1 z.2.1 z.2.2.1 z.2.2.2.1 ∈ gTs) : GoodIn gTs (gW z) := fun w hw => by
  rcases List.mem_cons.mp hw with rfl | hw
  · exact ⟨h, good_of_word (gTs_good _ h)⟩
  · exact ⟨hw, good_of_word (gTs_good _ hw)⟩
section GC
variable {sc : SC} {y z : MI} {pc : Nat} {L : List (Option AV)} {st : List AV} {M : HM} {Q : Option AV → HM → Prop}
theorem g_back {p : Program} {l : Launch} {e : Env} {R : Room} {s : State} {m : MethodId} {args : Array Value} {below : List Frame} {meth : Method} {c : Code} {H : Heap} {locs : List Loc} {cells slots mc ms : Nat} {Qf : State → Prop} {ls : Array Slot} {st0 rest : List Value} {f : Cf} {Q' : Option AV → HM → Prop} {a : Array Value}
    (hr : va_Run p l e R s m args below meth c H locs cells slots mc ms (F0 m pc ls st0) rest (gQc f Q' a) (gA f)) (hS : va_S (gA f) s.heap H locs)
    (kk : ∀ (r : Option AV) (M' : HM) (H1 : Heap) (locs1 : List Loc), Q' r M' → gMem f M' H1 → va_S (gA f) s.heap H1 locs1 → W p l e R s m args below meth c H1 locs1 (cells + mc) (slots + ms) Qf (F0 m (pc + 3) ls ((r.map (cvv f)).toList ++ rest))) : W p l e R s m args below meth c H locs cells slots Qf (F0 m pc ls st0) := by
  intro T hT X
  obtain ⟨v, st₀, t, T', L', h0, X', hL, e1, e2, ⟨⟨r, M', hv, hq, hm⟩, hz, hk⟩, stp⟩ := hr T hT X
  cases hv
  rw [h0] at hz hk
  obtain ⟨t2, a1, b1⟩ := kk r M' T'.heap (locs ++ L') hq (by rw [e1]; exact hm)
    ⟨Nat.le_trans hS.1 (by rw [e1]; exact hz), fun q g1 g2 => by rw [e1, hk q (Nat.lt_of_lt_of_le g1 hS.1) g2]; exact hS.2.1 q g1 g2, fun q hq => by
      rcases List.mem_append.mp hq with h | h
      · exact hS.2.2 q h
      · exact hL q h⟩ T' rfl X'
  exact ⟨t2, stp t2 a1, b1⟩
/-- the words of what is left on the stack -/
def gCat (st : List AV) : Nat := (st.map fun v => match v with
  | .inr (.inl _) => 2
  | _ => 1).sum
theorem gCat_eq (f : Cf) : ∀ st : List AV, ((st.map (cvv f)).map fun v => v.category).sum = gCat st
  | [] => rfl
  | .inl x :: r => by
    show 1 + ((r.map (cvv f)).map fun v => v.category).sum = 1 + gCat r
    rw [gCat_eq f r]
  | .inr (.inl x) :: r => by
    show 2 + ((r.map (cvv f)).map fun v => v.category).sum = 2 + gCat r
    rw [gCat_eq f r]
  | .inr (.inr (.inl x)) :: r => by
    show 1 + ((r.map (cvv f)).map fun v => v.category).sum = 1 + gCat r
    rw [gCat_eq f r]
  | .inr (.inr (.inr 0)) :: r => by
    show 1 + ((r.map (cvv f)).map fun v => v.category).sum = 1 + gCat r
    rw [gCat_eq f r]
  | .inr (.inr (.inr (x + 1))) :: r => by
    show 1 + ((r.map (cvv f)).map fun v => v.category).sum = 1 + gCat r
    rw [gCat_eq f r]
theorem g_stk {f : Cf} {r : Option AV} {st : List AV} : (r.map (cvv f)).toList ++ st.map (cvv f) = (r.toList ++ st).map (cvv f) := by
  cases r <;> rfl
/-- what a call leads to: the callee's budget is used up, then the caller goes on -/
abbrev gK (sc : SC) (y : MI) (pc : Nat) (L : List (Option AV)) (st : List AV) (M : HM) (n' s' : Nat) (Q : Option AV → HM → Prop) : Option AV → HM → Prop := fun r M' => M'.2.1 = n' ∧ M'.2.2.1 = s' ∧ G sc y (pc + 3) L (r.toList ++ st) (M'.1, n', s', M.2.2.2.1, M.2.2.2.2) Q
theorem g_going {f : Cf} {l : Launch} {p : Program} {e : Env} {s : State} {m : MethodId} {args : Array Value} {below : List Frame} {meth : Method} {c : Code} {cells slots mc ms : Nat} {ls : Array Slot} {n' s' : Nat} (hn : M.2.1 ≤ n' ∧ n' ≤ M.2.2.2.1) (hs : M.2.2.1 ≤ s' ∧ s' ≤ M.2.2.2.2) (C : gCtx y p s m args meth c) (Wd : gWd f sc s) (hl : lv_has ls y.2.2.1 (lpr f 0 L)) (hB : f.1 ≤ s.heap.size) (h1 : cells + M.2.2.2.1 = mc + M.2.1) (h2 : slots + M.2.2.2.2 = ms + M.2.2.1)
    (r : Option AV) (M' : HM) (H1 : Heap) (locs1 : List Loc) (hq : gK sc y pc L st M n' s' Q r M') (hm : gMem f M' H1) (hS1 : va_S (gA f) s.heap H1 locs1) : W p l e (gRm y mc ms) s m args below meth c H1 locs1 (cells + (n' - M.2.1)) (slots + (s' - M.2.2.1)) (MQ below (gQc f Q) args s mc ms (gA f)) (F0 m (pc + 3) ls ((r.map (cvv f)).toList ++ st.map (cvv f))) := by
  rw [g_stk]
  obtain ⟨q1, q2, q3⟩ := hq
  refine q3 f l p e s m args below meth c H1 locs1 _ _ mc ms ls C Wd ?_ hS1 hl hB ?_ ?_
  · refine ⟨?_, fun k hk => hm.2 k ?_⟩
    · rw [hm.1, q1]
    · rw [q1]; exact hk
  · show cells + (n' - M.2.1) + M.2.2.2.1 = mc + n'
    omega
  · show slots + (s' - M.2.2.1) + M.2.2.2.2 = ms + s'
    omega
theorem g_map_rev {f : Cf} {av st : List AV} : (av.reverse ++ st).map (cvv f) = (av.map (cvv f)).reverse ++ st.map (cvv f) := by
  rw [List.map_append, List.map_reverse]
theorem G_callS {i n' s' : Nat} {av : List AV} (hd : decode y.2.1 pc = .ok (.invokestatic i, 3)) (hz : mS z av.length) (hlk : lkB y z i) (hcat : gCat st ≤ 8) (hn : M.2.1 ≤ n' ∧ n' ≤ M.2.2.2.1) (hs : M.2.2.1 ≤ s' ∧ s' ≤ M.2.2.2.2)
    (hM : CT sc z av (M.1, M.2.1, M.2.2.1, n', s') (gK sc y pc L st M n' s' Q)) : G sc y pc L (av.reverse ++ st) M Q := by
  intro f l p e s m args below meth c H locs cells slots mc ms ls C Wd hMm hS hl hB h1 h2
  obtain ⟨z1, z2, z3, z4⟩ := mB_spec hz.2
  rw [g_map_rev]
  refine g_back (Q' := gK sc y pc L st M n' s' Q) (va_runS (As := av.map (cvv f)) (rest := st.map (cvv f)) (n := av.length) (index := i) (bytes := z.2.1) (maxL := z.2.2.1) (ret := z.2.2.2.1) (Ts := gTs) (own := y.1.cls) (cc := y.2.1) (nL := y.2.2.1) ⟨C.1, C.2.1, C.2.2.1, C.2.2.2.1, C.2.2.2.2.1⟩ (hM f l) ⟨callB_of av.length C.2.2.2.2.1 (gW_good z2) rfl rfl rfl (C.2.2.2.2.1 _ z1) (C.2.2.2.2.1 _ hlk.1) ⟨z3.1, z3.2, z4⟩ hlk.2, C.2.2.2.2.1 _ hz.1⟩ ⟨gPc_blind f sc av _, fun U hU hW => ⟨rfl, by rw [hU]; exact hMm, gWd_moved Wd hS hB hU hW⟩⟩ rfl (by simp) hl.1 rfl (lv_room (by rw [gCat_eq]; exact hcat)) hd ⟨?_, ?_⟩) hS (g_going hn hs C Wd hl hB h1 h2)
  · show cells + (n' - M.2.1) ≤ mc
    omega
  · show slots + (s' - M.2.2.1) ≤ ms
    omega
theorem g_recv {f : Cf} {s : State} {H : Heap} {a ci : Nat} {F : Nat → AV} {q : vw_C} (Wd : gWd f sc s) (hM : gMem f M H) (ha : a < M.2.1) (hc : M.1 a = .inr (.inr (ci, F))) (hq : vwCl[ci]? = some q) : ∃ cell : Cell, H[f.1 + a]? = some cell ∧ cell.vm.isStatics = false ∧ s.vm.findClass q.1 = some cell.cls := by
  have ho := hM.2 a ha
  rw [hc] at ho
  obtain ⟨cell, q1, q2, q3, q4⟩ := ho
  obtain ⟨hSl, hfc, kC, hkC, hkind⟩ := Wd.1.1 ci _ hq
  exact ⟨cell, q1, by rw [q3]; rfl, by rw [q2]; exact hfc⟩
theorem G_callV {i n' s' a ci : Nat} {av : List AV} {F : Nat → AV} (hd : decode y.2.1 pc = .ok (.invokevirtual i, 3)) (hz : mV z av.length) (hlk : lkB y z i) (hcat : gCat st ≤ 8) (ha : a < M.2.1) (hc : M.1 a = .inr (.inr (ci, F))) (hci : (vwCl[ci]?).map (fun q => q.1) = some z.1.cls) (hn : M.2.1 ≤ n' ∧ n' ≤ M.2.2.2.1) (hs : M.2.2.1 ≤ s' ∧ s' ≤ M.2.2.2.2)
    (hM : CT sc z (aR a :: av) (M.1, M.2.1, M.2.2.1, n', s') (gK sc y pc L st M n' s' Q)) : G sc y pc L (av.reverse ++ aR a :: st) M Q := by
  intro f l p e s m args below meth c H locs cells slots mc ms ls C Wd hMm hS hl hB h1 h2
  obtain ⟨z1, z2, z3, z4⟩ := mB_spec hz.2
  cases hq : vwCl[ci]? with
  | none => rw [hq] at hci; cases hci
  | some q =>
    rw [hq] at hci
    have hqc : q.1 = z.1.cls := Option.some.inj hci
    rw [g_map_rev]
    refine g_back (Q' := gK sc y pc L st M n' s' Q) (va_runV (As := av.map (cvv f)) (rest := st.map (cvv f)) (n := av.length) (index := i) (bytes := z.2.1) (maxL := z.2.2.1) (ret := z.2.2.2.1) (Ts := gTs) (own := y.1.cls) (cc := y.2.1) (nL := y.2.2.1) (C := z.1.cls) (b := f.1 + a) ⟨C.1, C.2.1, C.2.2.1, C.2.2.2.1, C.2.2.2.2.1⟩ (hM f l) ⟨callB_of av.length C.2.2.2.2.1 (gW_good z2) rfl rfl rfl (C.2.2.2.2.1 _ z1) (C.2.2.2.2.1 _ hlk.1) ⟨z3.1, z3.2, z4⟩ hlk.2, C.2.2.2.2.1 _ hz.1.1, C.2.2.2.2.1 _ hz.1.2⟩ ⟨gPc_blind f sc _ _, by rw [← hqc]; exact g_recv Wd hMm ha hc hq, fun U hU hW => ⟨rfl, by rw [hU]; exact hMm, gWd_moved Wd hS hB hU hW⟩⟩ rfl (by simp) hl.1 rfl (lv_room (by rw [gCat_eq]; exact hcat)) hd ⟨?_, ?_⟩) hS (g_going hn hs C Wd hl hB h1 h2)
    · show cells + (n' - M.2.1) ≤ mc
      omega
    · show slots + (s' - M.2.2.1) ≤ ms
      omega
theorem G_callI {i n' s' a : Nat} {av : List AV} (hd : decode y.2.1 pc = .ok (.invokespecial i, 3)) (hz : mI z av.length) (hlk : lkB y z i) (hcat : gCat st ≤ 8) (hn : M.2.1 ≤ n' ∧ n' ≤ M.2.2.2.1) (hs : M.2.2.1 ≤ s' ∧ s' ≤ M.2.2.2.2)
    (hM : CT sc z (aR a :: av) (M.1, M.2.1, M.2.2.1, n', s') (gK sc y pc L st M n' s' Q)) : G sc y pc L (av.reverse ++ aR a :: st) M Q := by
  intro f l p e s m args below meth c H locs cells slots mc ms ls C Wd hMm hS hl hB h1 h2
  obtain ⟨z1, z2, z3, z4⟩ := mB_spec hz.2.1
  have hno : gW z = Cond.code z.1 z.2.1 z.2.2.1 none :: gTs := by unfold gW; rw [hz.2.2]
  rw [g_map_rev]
  refine g_back (Q' := gK sc y pc L st M n' s' Q) (va_runI (As := av.map (cvv f)) (rest := st.map (cvv f)) (n := av.length) (index := i) (bytes := z.2.1) (maxL := z.2.2.1) (Ts := gTs) (own := y.1.cls) (cc := y.2.1) (nL := y.2.2.1) (b := f.1 + a) ⟨C.1, C.2.1, C.2.2.1, C.2.2.2.1, C.2.2.2.2.1⟩ (hM f l) ⟨callB_of av.length C.2.2.2.2.1 (gW_good z2) hno rfl rfl (C.2.2.2.2.1 _ z1) (C.2.2.2.2.1 _ hlk.1) ⟨z3.1, z3.2, z4⟩ hlk.2, hz.1.2, C.2.2.2.2.1 _ hz.1.1⟩ ⟨gPc_blind f sc _ _, fun U hU hW => ⟨rfl, by rw [hU]; exact hMm, gWd_moved Wd hS hB hU hW⟩⟩ rfl (by simp) hl.1 rfl (lv_room (by rw [gCat_eq]; exact hcat)) hd ⟨?_, ?_⟩) hS (g_going hn hs C Wd hl hB h1 h2)
  · show cells + (n' - M.2.1) ≤ mc
    omega
  · show slots + (s' - M.2.2.1) ≤ ms
    omega
theorem G_callIN {i n' s' a : Nat} {av : List AV} (hd : decode y.2.1 pc = .ok (.invokespecial i, 3)) (hz : mI z av.length) (hlk : lkN y z i) (hcat : gCat st ≤ 8) (hn : M.2.1 ≤ n' ∧ n' ≤ M.2.2.2.1) (hs : M.2.2.1 ≤ s' ∧ s' ≤ M.2.2.2.2)
    (hM : CT sc z (aR a :: av) (M.1, M.2.1, M.2.2.1, n', s') (gK sc y pc L st M n' s' Q)) : G sc y pc L (av.reverse ++ aR a :: st) M Q := by
  intro f l p e s m args below meth c H locs cells slots mc ms ls C Wd hMm hS hl hB h1 h2
  obtain ⟨z1, z2, z3, z4⟩ := mB_spec hz.2.1
  have hno : gW z = Cond.code z.1 z.2.1 z.2.2.1 none :: gTs := by unfold gW; rw [hz.2.2]
  rw [g_map_rev]
  refine g_back (Q' := gK sc y pc L st M n' s' Q) (va_runIN (As := av.map (cvv f)) (rest := st.map (cvv f)) (n := av.length) (index := i) (bytes := z.2.1) (maxL := z.2.2.1) (Ts := gTs) (own := y.1.cls) (host := RX9) (cc := y.2.1) (nL := y.2.2.1) (b := f.1 + a) ⟨C.1, C.2.1, C.2.2.1, C.2.2.2.1, C.2.2.2.2.1⟩ (hM f l) ⟨va_cnB av.length C.2.2.2.2.1 (gW_good z2) hno rfl rfl (Wd.2.2.1 _ hlk.1) (C.2.2.2.2.1 _ z1) ⟨z3.1, z3.2, z4⟩ hlk.2, hz.1.2, C.2.2.2.2.1 _ hz.1.1⟩ ⟨gPc_blind f sc _ _, fun U hU hW => ⟨rfl, by rw [hU]; exact hMm, gWd_moved Wd hS hB hU hW⟩⟩ rfl (by simp) hl.1 rfl (lv_room (by rw [gCat_eq]; exact hcat)) hd ⟨?_, ?_⟩) hS (g_going hn hs C Wd hl hB h1 h2)
  · show cells + (n' - M.2.1) ≤ mc
    omega
  · show slots + (s' - M.2.2.1) ≤ ms
    omega
end GC
