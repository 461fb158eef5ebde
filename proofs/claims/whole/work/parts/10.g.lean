/-! G: one judgement for all methods. A frame and a memory of numbered cells; 'from here the method comes to its end with an answer and a memory of which Q holds'. -/
def gTs : List Cond := lw_tbl.filter goodWord
theorem gTs_good : ∀ w ∈ gTs, goodWord w = true := fun _ h => (List.mem_filter.mp h).2
/-- values: an int; a long; the cell k of ours; outside: 0 null, 1 the script, 2 + 2i the text i, 3 + 2i its bytes -/
abbrev AV : Type := Int32 ⊕ Int64 ⊕ Nat ⊕ Nat
abbrev aI (x : Int32) : AV := Sum.inl x
abbrev aL (x : Int64) : AV := Sum.inr (Sum.inl x)
abbrev aR (k : Nat) : AV := Sum.inr (Sum.inr (Sum.inl k))
abbrev aE (k : Nat) : AV := Sum.inr (Sum.inr (Sum.inr k))
/-- a cell: a row of ints (its kind, its length, what it holds); a row of references; an object (its class, its fields) -/
abbrev Cel : Type := (Nat × Nat × (Nat → Int32)) ⊕ (Nat × Nat × (Nat → Option Nat)) ⊕ (Nat × (Nat → AV))
/-- the cells; how many; how many slots; how many cells and slots there may be at the method's end -/
abbrev HM : Type := (Nat → Cel) × Nat × Nat × Nat × Nat
/-- where the cells begin; the classes' numbers and slots; the rows' classes; the outside's addresses -/
abbrev Cf : Type := Nat × va_G × (Nat → ClassId) × (Nat → Nat)
/-- the script: how long, what it holds -/
abbrev SC : Type := Nat × (Nat → Int32)
/-- a method: name, code, locals, what it returns, frames and locals' words below it -/
abbrev MI : Type := MethodName × ByteArray × Nat × Option FieldType × Nat × Nat
def cvv (f : Cf) (v : AV) : Value := match v with
  | .inl x => .int x
  | .inr (.inl x) => .long x
  | .inr (.inr (.inl k)) => .ref (f.1 + k)
  | .inr (.inr (.inr 0)) => .null
  | .inr (.inr (.inr (k + 1))) => .ref (f.2.2.2 k)
def gN (ci : Nat) : Nat := match vwCl[ci]? with
  | some q => q.2.2
  | none => 0
def gTy (f : Cf) : List (ClassId × FieldType) := [(f.2.2.1 0, .int), (f.2.2.1 1, .byte), (f.2.2.1 2, .short), (f.2.2.1 3, .object RX8), (f.2.2.1 4, .object RX3), (f.2.2.1 5, .object RX4), (f.2.2.1 6, .object RX5)]
def gAt (f : Cf) (a : Nat) (c : Cel) (H : Heap) : Prop := match c with
  | .inl (t, n, g) => H[a]? = some (vp_cell (f.2.2.1 t) (n, .inl g))
  | .inr (.inl (t, n, g)) => H[a]? = some (vp_cell (f.2.2.1 t) (n, .inr (.inr (.inr (.inr (fun i => (g i).map (fun k => f.1 + k)))))))
  | .inr (.inr (ci, F)) => t_OB a (f.2.1.1 ci) (gN ci) (f.2.1.2 ci) H (fun j => cvv f (F j))
def gMem (f : Cf) (M : HM) (H : Heap) : Prop := H.size = f.1 + M.2.1 ∧ ∀ k, k < M.2.1 → gAt f (f.1 + k) (M.1 k) H
def gNest : List (String × Nat × MethodName × String) := [(RX0, 49, yX2_init, RX9), (RX0, 75, yX3_init, RX9), (RX9, 70, yX7_init, RX9), (RX7, 11, yX3_init, RX9), (RX9, 81, yX8_init, RX9), (RX9, 82, yX3_init, RX9), (RX9, 83, yX5_init, RX9)]
abbrev gA (f : Cf) : Nat → Prop := fun q => f.1 ≤ q
/-- what holds outside of our cells, and of the classes, all the time -/
def gWd (f : Cf) (sc : SC) (s : State) : Prop :=
  va_K f.2.1 vwCl (gTy f) s ∧ (va_X (f.2.2.2 0) sc.1 sc.2 s s.heap ∧ f.2.2.2 0 < f.1) ∧ (∀ q ∈ gNest, va_Nw (.methodLinkNest q.1 q.2.1 q.2.2.1 q.2.2.2) s) ∧
  vk_S 2 [4, 3] [[100, 119, 99, 115], [49, 50, 122]] (fun i => f.2.2.2 (1 + 2 * i)) (fun i => f.2.2.2 (2 + 2 * i)) (gA f) s s.heap ∧ vk_R RX7 85 "dwcs" (f.2.2.2 1) s ∧ vk_R RX7 92 "12z" (f.2.2.2 3) s ∧ va_Z "java/lang/String" "COMPACT_STRINGS" "Z" (.int 1) (gA f) s s.heap ∧ (va_AO RX8 s ∧ va_AO RX3 s ∧ va_AO RX4 s ∧ va_AO RX5 s)
def lpr (f : Cf) : Nat → List (Option AV) → List (Nat × Value)
  | _, [] => []
  | i, none :: r => lpr f (i + 1) r
  | i, some v :: r => (i, cvv f v) :: lpr f (i + 1) r
def gCtx (y : MI) (p : Program) (s : State) (m : MethodId) (args : Array Value) (meth : Method) (c : Code) : Prop :=
  p.tables.exec = Jvm.exec ∧ c.code = y.2.1 ∧ c.maxLocals = y.2.2.1 ∧ s.vm.findClass y.1.cls = some m.cls ∧ (∀ w ∈ gTs, w.before args s = true) ∧ meth.sig.returnType = y.2.2.2.1 ∧ meth.locks = false ∧ meth.name = y.1.name
def gRm (y : MI) (mc ms : Nat) : Room := { frames := y.2.2.2.2.1, cells := mc, slots := ms, locals := y.2.2.2.2.2 }
def gQc (f : Cf) (Q : Option AV → HM → Prop) : Array Value → State → Outcome → State → Prop := fun _ st o t => (∃ (r : Option AV) (M : HM), o = .returned (r.map (cvv f)) ∧ Q r M ∧ gMem f M t.heap) ∧ va_F (gA f) st t
def G (sc : SC) (y : MI) (pc : Nat) (L : List (Option AV)) (st : List AV) (M : HM) (Q : Option AV → HM → Prop) : Prop :=
  ∀ (f : Cf) (l : Launch) (p : Program) (e : Env) (s : State) (m : MethodId) (args : Array Value) (below : List Frame) (meth : Method) (c : Code) (H : Heap) (locs : List Loc) (cells slots mc ms : Nat) (ls : Array Slot),
    gCtx y p s m args meth c → gWd f sc s → gMem f M H → va_S (gA f) s.heap H locs → lv_has ls y.2.2.1 (lpr f 0 L) → f.1 ≤ s.heap.size → cells + M.2.2.2.1 = mc + M.2.1 → slots + M.2.2.2.2 = ms + M.2.2.1 →
    W p l e (gRm y mc ms) s m args below meth c H locs cells slots (MQ below (gQc f Q) args s mc ms (gA f)) (F0 m pc ls (st.map (cvv f)))
def gW (z : MI) : List Cond := Cond.code z.1 z.2.1 z.2.2.1 z.2.2.2.1 :: gTs
def gPc (f : Cf) (sc : SC) (av : List AV) (M : HM) : Array Value → State → Prop := fun v U => v = (av.map (cvv f)).toArray ∧ gMem f M U.heap ∧ gWd f sc U
/-- the contract of a method at these arguments and this memory -/
def CT (sc : SC) (z : MI) (av : List AV) (M : HM) (Q : Option AV → HM → Prop) : Prop :=
  ∀ (f : Cf) (l : Launch), Met l z.1 (gW z) (gRm z (M.2.2.2.1 - M.2.1) (M.2.2.2.2 - M.2.2.1)) (gPc f sc av M) (gQc f Q) (M.2.2.2.1 - M.2.1) (M.2.2.2.2 - M.2.2.1) (gA f)
theorem gWd_moved {f : Cf} {sc : SC} {s U : State} {H : Heap} {locs : List Loc} (h : gWd f sc s) (hS : va_S (gA f) s.heap H locs) (hB : f.1 ≤ s.heap.size) (hU : U.heap = H) (hW : s.WarmedH U.vm) : gWd f sc U := by
  obtain ⟨h1, ⟨h2, h2'⟩, h3, h4, h5, h6, h7, h8⟩ := h
  have hA : ¬ gA f (f.2.2.2 0) := by show ¬ f.1 ≤ _; omega
  refine ⟨va_K.moved hW.alike h1, ⟨?_, h2'⟩, fun q hq => va_Nw.warmM hW (h3 q hq), ?_, vk_R.warm hW h5, vk_R.warm hW h6, ?_, h8.1.moved hW.alike, h8.2.1.moved hW.alike, h8.2.2.1.moved hW.alike, h8.2.2.2.moved hW.alike⟩
  · rw [hU]
    exact (h2.kept (hS.2.1 _ (by omega) hA)).moved hW.alike
  · rw [hU]
    exact (h4.kept hS.2.1).moved hW.alike
  · rw [hU]
    exact (h7.kept hS.2.1).moved hW.alike
theorem gWd_calling {f : Cf} {sc : SC} {U : State} {g : JFrame} {mk : MethodId} {a : Array Value} (h : gWd f sc U) : gWd f sc (U.calling g mk a) := by
  obtain ⟨h1, ⟨h2, h2'⟩, h3, h4, h5, h6, h7, h8⟩ := h
  have hv : U.vm.Alike (U.calling g mk a).vm := Vm.Alike.refl U.vm
  exact ⟨va_K.moved hv h1, ⟨va_X.moved hv h2, h2'⟩, fun q hq => va_Nw.same rfl rfl (h3 q hq), h4.moved hv, vk_R.same rfl h5, vk_R.same rfl h6, h7.moved hv, h8.1.moved hv, h8.2.1.moved hv, h8.2.2.1.moved hv, h8.2.2.2.moved hv⟩
theorem gPc_blind (f : Cf) (sc : SC) (av : List AV) (M : HM) : FrameBlind (gPc f sc av M) := fun _ _ _ _ h => ⟨h.1, h.2.1, gWd_calling h.2.2⟩
theorem lpr_mem {f : Cf} : ∀ (L : List (Option AV)) (j i : Nat) (v : AV), L[i]? = some (some v) → (j + i, cvv f v) ∈ lpr f j L
  | [], _, _, _, h => by simp at h
  | none :: r, j, 0, v, h => by simp at h
  | none :: r, j, i + 1, v, h => by
    have := lpr_mem (f := f) r (j + 1) i v (by simpa using h)
    rw [show j + 1 + i = j + (i + 1) by omega] at this
    exact this
  | some w :: r, j, 0, v, h => by
    simp at h
    subst h
    exact List.mem_cons_self
  | some w :: r, j, i + 1, v, h => by
    have := lpr_mem (f := f) r (j + 1) i v (by simpa using h)
    rw [show j + 1 + i = j + (i + 1) by omega] at this
    exact List.mem_cons_of_mem _ this
theorem lpr_at {f : Cf} : ∀ (L : List (Option AV)) (j : Nat) (q : Nat × Value), q ∈ lpr f j L → ∃ (i : Nat) (v : AV), q = (j + i, cvv f v) ∧ L[i]? = some (some v)
  | [], _, _, h => by cases h
  | none :: r, j, q, h => by
    obtain ⟨i, v, h1, h2⟩ := lpr_at r (j + 1) q h
    exact ⟨i + 1, v, by rw [h1]; congr 1; omega, by simpa using h2⟩
  | some w :: r, j, q, h => by
    rcases List.mem_cons.mp h with h | h
    · exact ⟨0, w, h, rfl⟩
    · obtain ⟨i, v, h1, h2⟩ := lpr_at r (j + 1) q h
      exact ⟨i + 1, v, by rw [h1]; congr 1; omega, by simpa using h2⟩
theorem g_lv {f : Cf} {ls : Array Slot} {n : Nat} {L : List (Option AV)} {i : Nat} {v : AV} (hl : lv_has ls n (lpr f 0 L)) (h : L[i]? = some (some v)) : ls[i]? = some (.val (cvv f v)) := by
  have := hl.2.2 _ (lpr_mem (f := f) L 0 i v h)
  simpa using this
/-- no long stands just ahead -/
def gOk (L : List (Option AV)) (i : Nat) : Bool := match i with
  | 0 => true
  | j + 1 => match L[j]? with
    | some (some (.inr (.inl _))) => false
    | _ => true
theorem cvv_cat2 {f : Cf} {v : AV} (h : (cvv f v).category = 2) : ∃ x, v = aL x := by
  rcases v with x | x | k | k
  · simp [cvv, Value.category] at h
  · exact ⟨x, rfl⟩
  · simp [cvv, Value.category] at h
  · cases k <;> simp [cvv, Value.category] at h
theorem g_st1 {f : Cf} {ls : Array Slot} {n : Nat} {L : List (Option AV)} {i : Nat} {v : AV} (hok : gOk L i = true) (h : lv_has ls n ((i, cvv f v) :: (lpr f 0 L).filter (fun q => !(q.1 == i) && !(q.1 + 1 == i && q.2.category == 2)))) : lv_has ls n (lpr f 0 (L.set i (some v))) := by
  refine ⟨h.1, h.2.1, fun q hq => ?_⟩
  obtain ⟨j, w, rfl, hj⟩ := lpr_at _ _ _ hq
  rw [List.getElem?_set] at hj
  by_cases hij : i = j
  · subst hij
    rw [if_pos rfl] at hj
    split at hj
    · cases hj
      exact h.2.2 _ (by simp)
    · cases hj
  · rw [if_neg hij] at hj
    refine h.2.2 _ (List.mem_cons_of_mem _ (List.mem_filter.mpr ⟨lpr_mem L 0 j w hj, ?_⟩))
    have h1 : ¬ (0 + j = i) := by omega
    simp only [Bool.and_eq_true, Bool.not_eq_true', beq_eq_false_iff_ne, ne_eq, Bool.and_eq_false_iff]
    refine ⟨h1, ?_⟩
    by_cases h2 : 0 + j + 1 = i
    · refine Or.inr fun h3 => ?_
      obtain ⟨x, rfl⟩ := cvv_cat2 h3
      have : i = j + 1 := by omega
      subst this
      simp [gOk, hj] at hok
    · exact Or.inl h2
theorem g_st2 {f : Cf} {ls : Array Slot} {n : Nat} {L : List (Option AV)} {i : Nat} {v : AV} (hok : gOk L i = true) (h : lv_has ls n ((i, cvv f v) :: (lpr f 0 L).filter (fun q => !(q.1 == i) && (!(q.1 == i + 1) && !(q.1 + 1 == i && q.2.category == 2))))) : lv_has ls n (lpr f 0 ((L.set i (some v)).set (i + 1) none)) := by
  refine ⟨h.1, h.2.1, fun q hq => ?_⟩
  obtain ⟨j, w, rfl, hj⟩ := lpr_at _ _ _ hq
  rw [List.getElem?_set] at hj
  by_cases hi1 : i + 1 = j
  · rw [if_pos hi1] at hj
    split at hj <;> cases hj
  · rw [if_neg hi1, List.getElem?_set] at hj
    by_cases hij : i = j
    · subst hij
      rw [if_pos rfl] at hj
      split at hj
      · cases hj
        exact h.2.2 _ (by simp)
      · cases hj
    · rw [if_neg hij] at hj
      refine h.2.2 _ (List.mem_cons_of_mem _ (List.mem_filter.mpr ⟨lpr_mem L 0 j w hj, ?_⟩))
      have h1 : ¬ (0 + j = i) := by omega
      have h1' : ¬ (0 + j = i + 1) := by omega
      simp only [Bool.and_eq_true, Bool.not_eq_true', beq_eq_false_iff_ne, ne_eq, Bool.and_eq_false_iff]
      refine ⟨h1, h1', ?_⟩
      by_cases h2 : 0 + j + 1 = i
      · refine Or.inr fun h3 => ?_
        obtain ⟨x, rfl⟩ := cvv_cat2 h3
        have : i = j + 1 := by omega
        subst this
        simp [gOk, hj] at hok
      · exact Or.inl h2
