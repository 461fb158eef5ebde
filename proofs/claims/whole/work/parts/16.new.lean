/-! rules of G that make cells, rows of references, Object's constructor, texts -/
def gDef (ci j : Nat) : AV := match vwCl[ci]? with
  | some q => match parseFieldDescriptor (q.2.1 j).2.2.1 with
    | some (.object _) => aE 0
    | some (.array _) => aE 0
    | some .long => aL 0
    | _ => aI 0
  | none => aI 0
/-- one cell more, of n slots -/
def gAdd (M : HM) (c : Cel) (n : Nat) : HM := (fun j => if j = M.2.1 then c else M.1 j, M.2.1 + 1, M.2.2.1 + n, M.2.2.2)
theorem gAt_lt {f : Cf} {a : Nat} {c : Cel} {H : Heap} (h : gAt f a c H) : a < H.size := by
  rcases c with ⟨t, n, g⟩ | ⟨t, n, g⟩ | ⟨ci, F⟩
  · exact (Array.getElem?_eq_some_iff.mp h).1
  · exact (Array.getElem?_eq_some_iff.mp h).1
  · obtain ⟨cell, h1, -⟩ := h
    exact (Array.getElem?_eq_some_iff.mp h1).1
theorem gMem_add {f : Cf} {M : HM} {H H1 : Heap} {c : Cel} {n : Nat} (hM : gMem f M H) (z : H1.size = H.size + 1) (oq : ∀ q, q < H.size → H1[q]? = H[q]?) (hc : gAt f H.size c H1) : gMem f (gAdd M c n) H1 := by
  refine ⟨by show H1.size = f.1 + (M.2.1 + 1); rw [z, hM.1]; omega, fun j hj => ?_⟩
  have hj : j < M.2.1 + 1 := hj
  show gAt f (f.1 + j) (if j = M.2.1 then c else M.1 j) H1
  by_cases h : j = M.2.1
  · subst h
    rw [if_pos rfl, ← hM.1]
    exact hc
  · rw [if_neg h]
    have h1 := hM.2 j (by omega)
    exact gAt_kept h1 (oq _ (gAt_lt h1))
def gNew (y : MI) (i ci : Nat) : Bool := match vwCl[ci]? with
  | some q => decide (Cond.classLink y.1.cls i q.1 ∈ gTs) && (decide (Cond.instantiable q.1 q.2.2 ∈ gTs) && decide (Cond.initialized q.1 ∈ gTs))
  | none => false
theorem defV (f : Cf) {ci j : Nat} {q : vw_C} (hq : vwCl[ci]? = some q) {ty : FieldType} (h : parseFieldDescriptor (q.2.1 j).2.2.1 = some ty) (hn : ty ≠ .float ∧ ty ≠ .double) : defaultValue ty = cvv f (gDef ci j) := by
  unfold gDef
  rw [hq]
  dsimp only
  rw [h]
  cases ty <;> first | rfl | exact absurd rfl hn.1 | exact absurd rfl hn.2
def gPlain (ci : Nat) : Bool := match vwCl[ci]? with
  | some q => (List.range q.2.2).all (fun j => match parseFieldDescriptor (q.2.1 j).2.2.1 with | some .float => false | some .double => false | _ => true)
  | none => false
def gNob (ty : FieldType) : Bool := match ty with
  | .object _ => false
  | _ => true
section GN
variable {sc : SC} {y : MI} {pc : Nat} {L : List (Option AV)} {st : List AV} {M : HM} {Q : Option AV → HM → Prop}
theorem va_S.grow {A : Nat → Prop} {H0 H H1 : Heap} {locs : List Loc} (hS : va_S A H0 H locs) (z : H1.size = H.size + 1) (o1 : ∀ q, q < H.size → H1[q]? = H[q]?) : va_S A H0 H1 locs := ⟨Nat.le_trans hS.1 (by omega), fun x h1 h2 => (o1 x (Nat.lt_of_lt_of_le h1 hS.1)).trans (hS.2.1 x h1 h2), hS.2.2⟩
theorem G_new {i ci N : Nat} (hd : decode y.2.1 pc = .ok (.new i, 3)) (hw : gNew y i ci = true) (hpl : gPlain ci = true) (hN : gN ci = N) (h1n : M.2.1 + 1 ≤ M.2.2.2.1) (h1s : M.2.2.1 + N ≤ M.2.2.2.2)
    (kk : G sc y (pc + 3) L (aR M.2.1 :: st) (gAdd M (.inr (.inr (ci, gDef ci))) N) Q) : G sc y pc L st M Q := by
  intro f l p e s m args below meth c H locs cells slots mc ms ls C Wd hM hS hl hB h1 h2
  unfold gNew at hw
  split at hw
  · rename_i q hq
    simp only [Bool.and_eq_true, decide_eq_true_eq] at hw
    have hNq : N = q.2.2 := by rw [← hN]; simp [gN, hq]
    subst hNq
    have hKn := Wd.1.1 ci _ hq
    obtain ⟨ty, hty⟩ := (gCls hq).2.1
    refine W.newcK C.1 C.2.1 C.2.2.2.1 (C.2.2.2.2.1 _ hw.1) (C.2.2.2.2.1 _ hw.2.1) (C.2.2.2.2.1 _ hw.2.2) rfl hd (by show cells + 1 ≤ mc; omega) (by show slots + q.2.2 ≤ ms; omega) hKn.2.1 rfl fun H1 kC hkC e1 z1 o1 => ?_
    have hb := u_born ty C.2.2.2.2.1 (gCls hq).1 hKn hkC e1 hty
    have hat : gAt f H.size (.inr (.inr (ci, gDef ci))) H1 := by
      show t_OB H.size (f.2.1.1 ci) (gN ci) (f.2.1.2 ci) H1 (fun j => cvv f (gDef ci j))
      rw [hN]
      refine hb.to (fun k hk => defV f hq (hty k hk) ?_)
      simp only [gPlain, hq, List.all_eq_true, List.mem_range] at hpl
      have h3 := hpl k hk
      rw [hty k hk] at h3
      refine ⟨fun h4 => ?_, fun h4 => ?_⟩
      · rw [h4] at h3; cases h3
      · rw [h4] at h3; cases h3
    have hk := kk f l p e s m args below meth c H1 locs (cells + 1) (slots + q.2.2) mc ms ls C Wd (gMem_add hM z1 o1 hat) (hS.grow z1 o1) hl hB (by show cells + 1 + M.2.2.2.1 = mc + (M.2.1 + 1); omega) (by show slots + q.2.2 + M.2.2.2.2 = ms + (M.2.2.1 + q.2.2); omega)
    rw [hM.1]
    exact hk
  · cases hw
theorem g_arr {f : Cf} {s : State} {t : Nat} {ty : FieldType} {cA : ClassId} (Wd : gWd f sc s) (ht : (gTy f)[t]? = some (f.2.2.1 t, ty)) (hp : gNob ty = true) (h1 : s.vm.findClass ("[" ++ ty.toString) = some cA) : cA = f.2.2.1 t := by
  have h2 := (Wd.1.2 t _ ht).2
  cases ty <;> first | (cases hp; done) | exact Option.some.inj (h1.symm.trans h2)
theorem G_newarray {at0 : ArrayType} {t : Nat} {x : Int32} {N : Nat} {ty : FieldType} (hd : decode y.2.1 pc = .ok (.newarray at0, 2)) (hty : newarray.typeOf at0 = ty) (hw : Cond.arrayClass ty ∈ gTs) (ht : ∀ f : Cf, (gTy f)[t]? = some (f.2.2.1 t, ty)) (hp : gNob ty = true) (hdf : defaultValue ty = .int 0) (hx : ¬ x < 0) (hN : x.toNatClampNeg = N) (hb : N * componentBytes ty ≤ 536870912) (h1n : M.2.1 + 1 ≤ M.2.2.2.1) (h1s : M.2.2.1 + N ≤ M.2.2.2.2)
    (kk : G sc y (pc + 2) L (aR M.2.1 :: st) (gAdd M (.inl (t, N, fun _ => 0)) N) Q) : G sc y pc L (aI x :: st) M Q := by
  intro f l p e s m args below meth c H locs cells slots mc ms ls C Wd hM hS hl hB h1 h2
  subst hty
  refine va_newaK C.1 C.2.1 (C.2.2.2.2.1 _ hw) rfl hd rfl hx hN hb (by show cells + 1 ≤ mc; omega) (by show slots + N ≤ ms; omega) rfl fun H1 cA e1 z1 o1 hAr hNm => ?_
  have hcA := g_arr Wd (ht f) hp hNm
  subst hcA
  have hat : gAt f H.size (.inl (t, N, fun _ => 0)) H1 := by
    show H1[H.size]? = some (vp_cell _ _)
    rw [e1, vp_cell_i, hdf]
  have hk := kk f l p e s m args below meth c H1 locs (cells + 1) (slots + N) mc ms ls C Wd (gMem_add hM z1 o1 hat) (hS.grow z1 o1) hl hB (by show cells + 1 + M.2.2.2.1 = mc + (M.2.1 + 1); omega) (by show slots + N + M.2.2.2.2 = ms + (M.2.2.1 + N); omega)
  rw [hM.1]
  exact hk
theorem g_over {f : Cf} {s : State} {t : Nat} {nm : String} (Wd : gWd f sc s) (ht : t ∈ [3, 4, 5, 6]) (hc : (gTy f)[t]? = some (f.2.2.1 t, .object nm)) : va_AO nm s := by
  obtain ⟨-, -, -, -, -, -, -, h8⟩ := Wd
  simp only [List.mem_cons, List.not_mem_nil, or_false] at ht
  rcases ht with rfl | rfl | rfl | rfl <;> (cases hc)
  · exact h8.1
  · exact h8.2.1
  · exact h8.2.2.1
  · exact h8.2.2.2
theorem G_anewarray {i t : Nat} {x : Int32} {N : Nat} {nm : String} (hd : decode y.2.1 pc = .ok (.anewarray i, 3)) (hw : Cond.classLink y.1.cls i nm ∈ gTs) (ht : t ∈ [3, 4, 5, 6]) (hc : ∀ f : Cf, (gTy f)[t]? = some (f.2.2.1 t, .object nm)) (hx : ¬ x < 0) (hN : x.toNatClampNeg = N) (hb : N * 4 ≤ 536870912) (h1n : M.2.1 + 1 ≤ M.2.2.2.1) (h1s : M.2.2.1 + N ≤ M.2.2.2.2)
    (kk : G sc y (pc + 3) L (aR M.2.1 :: st) (gAdd M (.inr (.inl (t, N, fun _ => none))) N) Q) : G sc y pc L (aI x :: st) M Q := by
  intro f l p e s m args below meth c H locs cells slots mc ms ls C Wd hM hS hl hB h1 h2
  subst hN
  refine W.anew C.1 C.2.1 C.2.2.2.1 (C.2.2.2.2.1 _ hw) (va_AO.use (g_over Wd ht (hc f))) rfl hd rfl hx hb (by show cells + 1 ≤ mc; omega) (by show slots + x.toNatClampNeg ≤ ms; omega) fun cA kA comp f1 f2 f3 f4 => ?_
  obtain ⟨kA', comp', -, -, -, g4⟩ := (Wd.1.2 t _ (hc f)).2
  have hcA : cA = f.2.2.1 t := Option.some.inj (f1.symm.trans g4)
  subst hcA
  generalize hH1 : H.push ({ cls := f.2.2.1 t, slots := Array.replicate x.toNatClampNeg .null, vm := .none } : Cell) = H1
  have z1 : H1.size = H.size + 1 := by rw [← hH1, Array.size_push]
  have e1 : H1[H.size]? = some (arrV (f.2.2.1 t) x.toNatClampNeg (fun _ => .null)) := by rw [← hH1, Array.getElem?_push_size, ← arrV_new]
  have o1 : ∀ q : Nat, q < H.size → H1[q]? = H[q]? := fun q hq => by rw [← hH1, Array.getElem?_push, if_neg (Nat.ne_of_lt hq)]
  have hat : gAt f H.size (.inr (.inl (t, x.toNatClampNeg, fun _ => none))) H1 := by
    show H1[H.size]? = some (vp_cell _ _)
    rw [e1, vp_cell_q]
    rfl
  have hk := kk f l p e s m args below meth c H1 locs (cells + 1) (slots + x.toNatClampNeg) mc ms ls C Wd (gMem_add hM z1 o1 hat) (hS.grow z1 o1) hl hB (by show cells + 1 + M.2.2.2.1 = mc + (M.2.1 + 1); omega) (by show slots + x.toNatClampNeg + M.2.2.2.2 = ms + (M.2.2.1 + x.toNatClampNeg); omega)
  rw [hM.1]
  exact hk
theorem G_aastore {a t n b ci : Nat} {g : Nat → Option Nat} {F : Nat → AV} {i : Int32} (hd : decode y.2.1 pc = .ok (.aastore, 1)) (ha : a < M.2.1) (hc : M.1 a = .inr (.inl (t, n, g))) (hb : b < M.2.1) (hcb : M.1 b = .inr (.inr (ci, F))) {q : vw_C} (hq : vwCl[ci]? = some q) (ht : ∀ f : Cf, (gTy f)[t]? = some (f.2.2.1 t, .object q.1)) (hi : vp_in i n)
    (kk : G sc y (pc + 1) L st (gUp M a (.inr (.inl (t, n, va_up g i.toNatClampNeg (some b))))) Q) : G sc y pc L (aR b :: aI i :: aR a :: st) M Q := by
  intro f l p e s m args below meth c H locs cells slots mc ms ls C Wd hM hS hl hB h1 h2
  have ho := hM.2 a ha
  rw [hc] at ho
  have hlt : i.toNatClampNeg < n := Nat.not_le.mp fun q => hi (Or.inr q)
  have h0 : ¬ i < 0 := fun q => hi (Or.inl q)
  have hv := hM.2 b hb
  rw [hcb] at hv
  obtain ⟨cellV, g1, g2, g3, -⟩ := hv
  have hcls := (Wd.1.1 ci q hq).2
  obtain ⟨kA, comp, k1, k2, k3, -⟩ := (Wd.1.2 t _ (ht f)).2
  have hcomp : comp = f.2.1.1 ci := Option.some.inj (k3.symm.trans hcls.1)
  subst hcomp
  obtain ⟨kC, hkC, -⟩ := id hcls.2
  refine W.aast C.1 C.2.1 ho (fun q h => by cases h) (fun h => by cases h) k1 k2 rfl hkC ⟨h0, by show _ < (arrV _ _ _).slots.size; rw [arrV_size]; exact hlt⟩ g1 (fun q h => by rw [g3] at h; cases h) (by rw [g2]; exact hkC) (by rw [g2]; exact va_assign hcls) rfl rfl hd fun H1 e1 e2 e3 => ?_
  have hat : gAt f (f.1 + a) (.inr (.inl (t, n, va_up g i.toNatClampNeg (some b)))) H1 := by
    show H1[f.1 + a]? = some (vp_cell _ _)
    rw [e1]
    rw [vp_cell_q, vp_cell_q, arrV_store]
    congr 2
    funext q
    by_cases hq : q = i.toNatClampNeg
    · subst hq
      simp [updV, va_up, va_rf]
    · simp [updV, va_up, hq]
  exact kk f l p e s m args below meth c H1 _ cells slots mc ms ls C Wd (gMem_set hM e2 e3 hat) (hS.put e2 e3 (by show f.1 ≤ f.1 + a; omega)) hl hB h1 h2
theorem G_objInit {i a : Nat} (hd : decode y.2.1 pc = .ok (.invokespecial i, 3)) (h1w : Cond.methodLink y.1.cls i objectInit ∈ gTs) (h2w : Cond.instanceMethod objectInit ∈ gTs) (h3w : Cond.code objectInit ⟨#[0xb1]⟩ 1 none ∈ gTs) (hf : 1 ≤ y.2.2.2.2.1) (hlo : gCat st + 12 ≤ y.2.2.2.2.2)
    (kk : G sc y (pc + 3) L st M Q) : G sc y pc L (aR a :: st) M Q := by
  intro f l p e s m args below meth c H locs cells slots mc ms ls C Wd hM hS hl hB h1 h2
  exact W.objInit C.1 C.2.1 C.2.2.2.1 (C.2.2.2.2.1 _ h1w) (C.2.2.2.2.1 _ h2w) (C.2.2.2.2.1 _ h3w) rfl (by rw [C.2.2.1]; exact hl.1) rfl hd hf (by show 2 * 0 + ((st.map (cvv f)).map fun v => v.category).sum + 12 ≤ _; rw [gCat_eq]; show 2 * 0 + gCat st + 12 ≤ y.2.2.2.2.2; omega) (kk f l p e s m args below meth c H locs cells slots mc ms ls C Wd hM hS hl hB h1 h2)
end GN
