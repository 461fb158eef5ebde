/-! rules of G that read and write cells -/
def gUp (M : HM) (k : Nat) (c : Cel) : HM := (fun j => if j = k then c else M.1 j, M.2)
theorem gAt_kept {f : Cf} {a : Nat} {c : Cel} {H H1 : Heap} (h : gAt f a c H) (hq : H1[a]? = H[a]?) : gAt f a c H1 := by
  rcases c with ⟨t, n, g⟩ | ⟨t, n, g⟩ | ⟨ci, F⟩
  · exact hq.trans h
  · exact hq.trans h
  · exact t_OB.kept h hq
theorem gMem_set {f : Cf} {M : HM} {H H1 : Heap} {k : Nat} {c : Cel} (hM : gMem f M H) (z : H1.size = H.size) (oq : ∀ q, q ≠ f.1 + k → H1[q]? = H[q]?) (hc : gAt f (f.1 + k) c H1) : gMem f (gUp M k c) H1 := by
  refine ⟨z.trans hM.1, fun j hj => ?_⟩
  show gAt f (f.1 + j) (if j = k then c else M.1 j) H1
  by_cases h : j = k
  · subst h
    rw [if_pos rfl]
    exact hc
  · rw [if_neg h]
    exact gAt_kept (hM.2 j hj) (oq _ (by omega))
/-- the class ci: its words, types, names -/
theorem gCls {ci : Nat} {q : vw_C} (h : vwCl[ci]? = some q) : (∀ w ∈ u_ws q.1 q.2.1 q.2.2, w ∈ gTs) ∧ (∃ ty : Nat → FieldType, ∀ k, k < q.2.2 → parseFieldDescriptor (q.2.1 k).2.2.1 = some (ty k)) ∧ ∀ a, a < q.2.2 → ∀ b, b < q.2.2 → a ≠ b → (q.2.1 a).2.1 ≠ (q.2.1 b).2.1 := by
  match ci, h with
  | 0, h => cases h; exact ⟨by decide +kernel, ⟨tyX0, tyX0_ok⟩, nmX0⟩
  | 1, h => cases h; exact ⟨by decide +kernel, ⟨tyX2, tyX2_ok⟩, nmX2⟩
  | 2, h => cases h; exact ⟨by decide +kernel, ⟨tyX3, tyX3_ok⟩, nmX3⟩
  | 3, h => cases h; exact ⟨by decide +kernel, ⟨tyX4, tyX4_ok⟩, nmX4⟩
  | 4, h => cases h; exact ⟨by decide +kernel, ⟨tyX5, tyX5_ok⟩, nmX5⟩
  | 5, h => cases h; exact ⟨by decide +kernel, ⟨tyX6, tyX6_ok⟩, nmX6⟩
  | 6, h => cases h; exact ⟨by decide +kernel, ⟨tyX7, tyX7_ok⟩, nmX7⟩
  | 7, h => cases h; exact ⟨by decide +kernel, ⟨tyX8, tyX8_ok⟩, nmX8⟩
  | 8, h => cases h; exact ⟨by decide +kernel, ⟨tyX9, tyX9_ok⟩, nmX9⟩
  | 9, h => cases h; exact ⟨by decide +kernel, ⟨tyX10, tyX10_ok⟩, nmX10⟩
  | n + 10, h => simp [vwCl] at h
/-- in the class own the pool's entry i is the field k of the class ci -/
def flB (own : String) (i ci k : Nat) : Prop := ∃ q : vw_C, vwCl[ci]? = some q ∧ k < q.2.2 ∧ Cond.fieldLink own i q.1 (q.2.1 k).2.1 (q.2.1 k).2.2.1 ∈ gTs ∧ (q.2.1 k).1 = q.1
theorem flB_spec {own : String} {i ci k : Nat} (h : flB own i ci k) : ∃ q : vw_C, vwCl[ci]? = some q ∧ k < q.2.2 ∧ Cond.fieldLink own i q.1 (q.2.1 k).2.1 (q.2.1 k).2.2.1 ∈ gTs ∧ (q.2.1 k).1 = q.1 := h
theorem gmem {w : Cond} (i : Nat) (h : lw_tbl[i]? = some w) (hg : goodWord w = true) : w ∈ gTs := List.mem_filter.mpr ⟨List.mem_of_getElem? h, hg⟩
/-- and its type is ty, not final -/
def fpB (ci k : Nat) (ty : FieldType) : Bool := match vwCl[ci]? with
  | some q => decide (parseFieldDescriptor (q.2.1 k).2.2.1 = some ty) && decide ((q.2.1 k).2.2.2 = false)
  | none => false
def ffB (ci k : Nat) (ty : FieldType) : Bool := match vwCl[ci]? with
  | some q => decide (parseFieldDescriptor (q.2.1 k).2.2.1 = some ty) && decide ((q.2.1 k).2.2.2 = true)
  | none => false
section GM
variable {sc : SC} {y : MI} {pc : Nat} {L : List (Option AV)} {st : List AV} {M : HM} {Q : Option AV → HM → Prop}
theorem G_getfield {i a ci k : Nat} {F : Nat → AV} (hd : decode y.2.1 pc = .ok (.getfield i, 3)) (hf : flB y.1.cls i ci k) (ha : a < M.2.1) (hc : M.1 a = .inr (.inr (ci, F))) (kk : G sc y (pc + 3) L (F k :: st) M Q) : G sc y pc L (aR a :: st) M Q := by
  intro f l p e s m args below meth c H locs cells slots mc ms ls C Wd hM hS hl hB h1 h2
  obtain ⟨q, hq, hk, hw, he⟩ := flB_spec hf
  have ho := hM.2 a ha
  rw [hc] at ho
  obtain ⟨cell, q1, q2, q3, q4⟩ := ho
  obtain ⟨hSl, hfc, kC, hkC, hkind⟩ := Wd.1.1 ci _ hq
  obtain ⟨cf, kf, fi, fd, hi, hsl⟩ := hSl k hk
  have hN : gN ci = q.2.2 := by simp [gN, hq]
  refine W.getf C.1 C.2.1 C.2.2.2.1 (C.2.2.2.2.1 _ hw) (by rw [← he]; exact hi) (u_facts hfc hkC (u_lays C.2.2.2.2.1 (gCls hq).1 hk) hi).1 q1 (by rw [q3]; exact fun h => by cases h) (v := cvv f (F k)) ?_ rfl rfl hd (kk f l p e s m args below meth c H locs cells slots mc ms ls C Wd hM hS hl hB h1 h2)
  rw [hsl, q4 k (by rw [hN]; exact hk)]
theorem g_putAt {f : Cf} {s : State} {args : Array Value} {H1 : Heap} {a ci k : Nat} {F : Nat → AV} {v : AV} {cell : Cell} (hts : ∀ w ∈ gTs, w.before args s = true) (hK : va_K f.2.1 vwCl (gTy f) s) {q : vw_C} (hq : vwCl[ci]? = some q) (hk : k < q.2.2) (q2 : cell.cls = f.2.1.1 ci) (q3 : cell.vm = .none) (q4 : ∀ j, j < gN ci → cell.slots[f.2.1.2 ci j]? = some (cvv f (F j))) (e1 : H1[a]? = some (cell.setSlot (f.2.1.2 ci k) (cvv f v))) : gAt f a (.inr (.inr (ci, fun j => if j = k then v else F j))) H1 := by
  obtain ⟨ty0, hty⟩ := (gCls hq).2.1
  have hN : gN ci = q.2.2 := by simp [gN, hq]
  have hap := va_apart (own := q.1) hts (gCls hq).1 ty0 hty (gCls hq).2.2 hK hq
  refine ⟨_, e1, q2, q3, fun j hj => ?_⟩
  rw [hN] at hj q4
  rw [t_set q4 hap hk (cvv f v) j hj]
  unfold updV
  by_cases h : j = k
  · simp [h]
  · simp [h]
theorem G_putfield {i a ci k : Nat} {F : Nat → AV} {v : AV} {ty : FieldType} (hd : decode y.2.1 pc = .ok (.putfield i, 3)) (hf : flB y.1.cls i ci k) (hp : fpB ci k ty = true) (hn : ∀ f : Cf, narrow ty (cvv f v) = cvv f v ∧ fits ty (cvv f v) = true) (ha : a < M.2.1) (hc : M.1 a = .inr (.inr (ci, F)))
    (kk : G sc y (pc + 3) L st (gUp M a (.inr (.inr (ci, fun j => if j = k then v else F j)))) Q) : G sc y pc L (v :: aR a :: st) M Q := by
  intro f l p e s m args below meth c H locs cells slots mc ms ls C Wd hM hS hl hB h1 h2
  obtain ⟨q, hq, hk, hw, he⟩ := flB_spec hf
  have ho := hM.2 a ha
  rw [hc] at ho
  obtain ⟨cell, q1, q2, q3, q4⟩ := ho
  obtain ⟨hSl, hfc, kC, hkC, hkind⟩ := Wd.1.1 ci _ hq
  obtain ⟨cf, kf, fi, fd, hi, hsl⟩ := hSl k hk
  have hN : gN ci = q.2.2 := by simp [gN, hq]
  have hp2 : parseFieldDescriptor (q.2.1 k).2.2.1 = some ty ∧ (q.2.1 k).2.2.2 = false := by simpa [fpB, hq] using hp
  have hlay := C.2.2.2.2.1 _ ((gCls hq).1 _ (u_in_lay hk))
  unfold u_lay at hlay
  rw [if_neg (by rw [hp2.2]; decide)] at hlay
  have hst := (u_facts hfc hkC (u_lays C.2.2.2.2.1 (gCls hq).1 hk) hi).1
  have h6 := u_store hfc hkC hkind hlay hi hp2.1 (hn f).1 (hn f).2
  refine W.putK C.1 C.2.1 (f := fd) ⟨C.2.2.2.1, C.2.2.2.2.1 _ hw, ⟨_, _, _, by rw [← he]; exact hi⟩, hst⟩ (by rw [q2]; exact h6) q1 q3 (by rw [hsl]; exact k2_hasslot (q4 k (by rw [hN]; exact hk))) rfl rfl hd fun H1 e1 e2 e3 => ?_
  rw [hsl] at e1 ⊢
  exact kk f l p e s m args below meth c H1 _ cells slots mc ms ls C Wd (gMem_set hM e2 e3 (g_putAt C.2.2.2.2.1 Wd.1 hq hk q2 q3 q4 e1)) (hS.put e2 e3 (by show f.1 ≤ f.1 + a; omega)) hl hB h1 h2
theorem G_putfinal {i a ci k : Nat} {F : Nat → AV} {v : AV} {ty : FieldType} (hd : decode y.2.1 pc = .ok (.putfield i, 3)) (hf : flB y.1.cls i ci k) (hp : ffB ci k ty = true) (hy : y.1.name = "<init>") (hy2 : (match vwCl[ci]? with | some q => decide (q.1 = y.1.cls) | none => false) = true) (hn : ∀ f : Cf, narrow ty (cvv f v) = cvv f v ∧ fits ty (cvv f v) = true) (ha : a < M.2.1) (hc : M.1 a = .inr (.inr (ci, F)))
    (kk : G sc y (pc + 3) L st (gUp M a (.inr (.inr (ci, fun j => if j = k then v else F j)))) Q) : G sc y pc L (v :: aR a :: st) M Q := by
  intro f l p e s m args below meth c H locs cells slots mc ms ls C Wd hM hS hl hB h1 h2
  obtain ⟨q, hq, hk, hw, he⟩ := flB_spec hf
  have ho := hM.2 a ha
  rw [hc] at ho
  obtain ⟨cell, q1, q2, q3, q4⟩ := ho
  obtain ⟨hSl, hfc, kC, hkC, hkind⟩ := Wd.1.1 ci _ hq
  obtain ⟨cf, kf, fi, fd, hi, hsl⟩ := hSl k hk
  have hN : gN ci = q.2.2 := by simp [gN, hq]
  have hp2 : parseFieldDescriptor (q.2.1 k).2.2.1 = some ty ∧ (q.2.1 k).2.2.2 = true := by simpa [ffB, hq] using hp
  have hy3 : q.1 = y.1.cls := by simpa [hq] using hy2
  have hlay := C.2.2.2.2.1 _ ((gCls hq).1 _ (u_in_lay hk))
  unfold u_lay at hlay
  rw [if_pos hp2.2] at hlay
  have hst := (u_facts hfc hkC (u_lays C.2.2.2.2.1 (gCls hq).1 hk) hi).1
  have hcf : m.cls = cf := by
    obtain ⟨_, _, c', _, _, _, -, -, hf', -, -, -, hown2, -⟩ := Cond.laysFinal_spec hlay
    have e1 : c' = cf := by have := hi.symm.trans hf'; simp at this; exact this.1.symm
    rw [he, hy3] at hown2
    rw [← e1]; exact Option.some.inj (C.2.2.2.1.symm.trans hown2)
  have h6 := u_fits hfc hkC hkind (Or.inr hlay) hi hp2.1 (hn f).1 (hn f).2
  refine W.putFinK C.1 C.2.1 C.2.2.2.1 (C.2.2.2.2.1 _ hw) (by rw [← he]; exact hi) hst hcf (C.2.2.2.2.2.2.2.trans hy) (by rw [q2]; exact h6) q1 q3 (by rw [hsl]; exact k2_hasslot (q4 k (by rw [hN]; exact hk))) rfl rfl hd fun H1 e1 e2 e3 => ?_
  rw [hsl] at e1 ⊢
  exact kk f l p e s m args below meth c H1 _ cells slots mc ms ls C Wd (gMem_set hM e2 e3 (g_putAt C.2.2.2.2.1 Wd.1 hq hk q2 q3 q4 e1)) (hS.put e2 e3 (by show f.1 ≤ f.1 + a; omega)) hl hB h1 h2
theorem G_iaload {a n : Nat} {g : Nat → Int32} {i : Int32} (hd : decode y.2.1 pc = .ok (.iaload, 1)) (ha : a < M.2.1) (hc : M.1 a = .inl (0, n, g)) (hi : vp_in i n) (kk : G sc y (pc + 1) L (aI (g i.toNatClampNeg) :: st) M Q) : G sc y pc L (aI i :: aR a :: st) M Q := by
  intro f l p e s m args below meth c H locs cells slots mc ms ls C Wd hM hS hl hB h1 h2
  have ho := hM.2 a ha
  rw [hc] at ho
  have hlt : i.toNatClampNeg < n := Nat.not_le.mp fun q => hi (Or.inr q)
  exact W.iald C.1 C.2.1 ho ((Wd.1.2 0 _ rfl).1 n (fun j => .int (g j))) (fun q => by cases q) (by show ¬ (i < 0 ∨ (arrV _ _ _).slots.size ≤ _); rw [arrV_size]; exact hi) (v := .int (g i.toNatClampNeg)) (by show (arrV _ _ _).slots[_]? = _; rw [arrV_read _ _ hlt]) rfl rfl hd (kk f l p e s m args below meth c H locs cells slots mc ms ls C Wd hM hS hl hB h1 h2)
theorem g_astAt {f : Cf} {H1 : Heap} {a t n : Nat} {g : Nat → Int32} {i x : Int32} (v : Value) (hv : v = .int x) (e : H1[a]? = some ((vp_cell (f.2.2.1 t) (n, .inl g)).setSlot i.toNatClampNeg v)) : gAt f a (.inl (t, n, upd g i.toNatClampNeg x)) H1 := by
  show H1[a]? = some (vp_cell _ _)
  rw [e]
  rw [vp_cell_i, vp_cell_i, arrV_store]
  congr 2
  funext q
  by_cases hq : q = i.toNatClampNeg
  · subst hq
    simp [updV, upd, hv]
  · simp [updV, upd, hq]
theorem G_iastore {a n : Nat} {g : Nat → Int32} {i x : Int32} (hd : decode y.2.1 pc = .ok (.iastore, 1)) (ha : a < M.2.1) (hc : M.1 a = .inl (0, n, g)) (hi : vp_in i n) (kk : G sc y (pc + 1) L st (gUp M a (.inl (0, n, upd g i.toNatClampNeg x))) Q) : G sc y pc L (aI x :: aI i :: aR a :: st) M Q := by
  intro f l p e s m args below meth c H locs cells slots mc ms ls C Wd hM hS hl hB h1 h2
  have ho := hM.2 a ha
  rw [hc] at ho
  refine W.iast C.1 C.2.1 ho ((Wd.1.2 0 _ rfl).1 n (fun j => .int (g j))) (fun q => by cases q) (by show ¬ (i < 0 ∨ (arrV _ _ _).slots.size ≤ _); rw [arrV_size]; exact hi) rfl rfl hd fun H1 e1 e2 e3 => ?_
  exact kk f l p e s m args below meth c H1 _ cells slots mc ms ls C Wd (gMem_set hM e2 e3 (g_astAt _ rfl e1)) (hS.put e2 e3 (by show f.1 ≤ f.1 + a; omega)) hl hB h1 h2
theorem G_baload {a n : Nat} {g : Nat → Int32} {i : Int32} (hd : decode y.2.1 pc = .ok (.baload, 1)) (ha : a < M.2.1) (hc : M.1 a = .inl (1, n, g)) (hi : vp_in i n) (kk : G sc y (pc + 1) L (aI (g i.toNatClampNeg) :: st) M Q) : G sc y pc L (aI i :: aR a :: st) M Q := by
  intro f l p e s m args below meth c H locs cells slots mc ms ls C Wd hM hS hl hB h1 h2
  have ho := hM.2 a ha
  rw [hc] at ho
  refine va_bald (D := f.2.1) (cl := vwCl) (tys := gTy f) (ws := [(f.1 + a, .inl (f.2.2.1 1, n, .inl g))]) C.1 C.2.1 Wd.1 (fun k q hk => ?_) 0 1 rfl rfl hi hd (kk f l p e s m args below meth c H locs cells slots mc ms ls C Wd hM hS hl hB h1 h2)
  match k, hk with
  | 0, hk => cases hk; exact ho
  | k + 1, hk => simp at hk
theorem G_saload {a n : Nat} {g : Nat → Int32} {i : Int32} (hd : decode y.2.1 pc = .ok (.saload, 1)) (ha : a < M.2.1) (hc : M.1 a = .inl (2, n, g)) (hi : vp_in i n) (kk : G sc y (pc + 1) L (aI (g i.toNatClampNeg) :: st) M Q) : G sc y pc L (aI i :: aR a :: st) M Q := by
  intro f l p e s m args below meth c H locs cells slots mc ms ls C Wd hM hS hl hB h1 h2
  have ho := hM.2 a ha
  rw [hc] at ho
  refine va_sald (D := f.2.1) (cl := vwCl) (tys := gTy f) (ws := [(f.1 + a, .inl (f.2.2.1 2, n, .inl g))]) C.1 C.2.1 Wd.1 (fun k q hk => ?_) 0 2 rfl rfl hi hd (kk f l p e s m args below meth c H locs cells slots mc ms ls C Wd hM hS hl hB h1 h2)
  match k, hk with
  | 0, hk => cases hk; exact ho
  | k + 1, hk => simp at hk
theorem G_bastore {a n : Nat} {g : Nat → Int32} {i x : Int32} (hd : decode y.2.1 pc = .ok (.bastore, 1)) (ha : a < M.2.1) (hc : M.1 a = .inl (1, n, g)) (hi : vp_in i n) (kk : G sc y (pc + 1) L st (gUp M a (.inl (1, n, upd g i.toNatClampNeg x.toInt8.toInt32))) Q) : G sc y pc L (aI x :: aI i :: aR a :: st) M Q := by
  intro f l p e s m args below meth c H locs cells slots mc ms ls C Wd hM hS hl hB h1 h2
  have ho := hM.2 a ha
  rw [hc] at ho
  refine W.bast C.1 C.2.1 ho ((Wd.1.2 1 _ rfl).1 n (fun j => .int (g j))) (fun q => by cases q) (by show ¬ (i < 0 ∨ (arrV _ _ _).slots.size ≤ _); rw [arrV_size]; exact hi) rfl rfl hd fun H1 e1 e2 e3 => ?_
  exact kk f l p e s m args below meth c H1 _ cells slots mc ms ls C Wd (gMem_set hM e2 e3 (g_astAt _ (by rfl) e1)) (hS.put e2 e3 (by show f.1 ≤ f.1 + a; omega)) hl hB h1 h2
theorem G_sastore {a n : Nat} {g : Nat → Int32} {i x : Int32} (hd : decode y.2.1 pc = .ok (.sastore, 1)) (ha : a < M.2.1) (hc : M.1 a = .inl (2, n, g)) (hi : vp_in i n) (kk : G sc y (pc + 1) L st (gUp M a (.inl (2, n, upd g i.toNatClampNeg x.toInt16.toInt32))) Q) : G sc y pc L (aI x :: aI i :: aR a :: st) M Q := by
  intro f l p e s m args below meth c H locs cells slots mc ms ls C Wd hM hS hl hB h1 h2
  have ho := hM.2 a ha
  rw [hc] at ho
  refine W.sast C.1 C.2.1 ho ((Wd.1.2 2 _ rfl).1 n (fun j => .int (g j))) (fun q => by cases q) (by show ¬ (i < 0 ∨ (arrV _ _ _).slots.size ≤ _); rw [arrV_size]; exact hi) rfl rfl hd fun H1 e1 e2 e3 => ?_
  exact kk f l p e s m args below meth c H1 _ cells slots mc ms ls C Wd (gMem_set hM e2 e3 (g_astAt _ (by rfl) e1)) (hS.put e2 e3 (by show f.1 ≤ f.1 + a; omega)) hl hB h1 h2
theorem G_alen {a t n : Nat} {g : Nat → Int32} {v : Int32} (hd : decode y.2.1 pc = .ok (.arraylength, 1)) (ha : a < M.2.1) (ht : t < 3) (hc : M.1 a = .inl (t, n, g)) (hv : Int32.ofNat n = v) (kk : G sc y (pc + 1) L (aI v :: st) M Q) : G sc y pc L (aR a :: st) M Q := by
  intro f l p e s m args below meth c H locs cells slots mc ms ls C Wd hM hS hl hB h1 h2
  have ho := hM.2 a ha
  rw [hc] at ho
  have hw : va_P f.2.1 vwCl [(f.1 + a, .inl (f.2.2.1 t, n, .inl g))] H := fun k q hk => by
    match k, hk with
    | 0, hk => cases hk; exact ho
    | k + 1, hk => simp at hk
  have K := kk f l p e s m args below meth c H locs cells slots mc ms ls C Wd hM hS hl hB h1 h2
  match t, ht with
  | 0, _ => exact va_alen C.1 C.2.1 Wd.1 hw 0 0 rfl rfl hv hd K
  | 1, _ => exact va_alen C.1 C.2.1 Wd.1 hw 0 1 rfl rfl hv hd K
  | 2, _ => exact va_alen C.1 C.2.1 Wd.1 hw 0 2 rfl rfl hv hd K
theorem G_aaload {a t n b : Nat} {g : Nat → Option Nat} {i : Int32} (hd : decode y.2.1 pc = .ok (.aaload, 1)) (ha : a < M.2.1) (ht : 3 ≤ t ∧ t < 7) (hc : M.1 a = .inr (.inl (t, n, g))) (hi : vp_in i n) (hb : g i.toNatClampNeg = some b) (kk : G sc y (pc + 1) L (aR b :: st) M Q) : G sc y pc L (aI i :: aR a :: st) M Q := by
  intro f l p e s m args below meth c H locs cells slots mc ms ls C Wd hM hS hl hB h1 h2
  have ho := hM.2 a ha
  rw [hc] at ho
  have hw : va_P f.2.1 vwCl [(f.1 + a, .inl (f.2.2.1 t, n, .inr (.inr (.inr (.inr (fun i => (g i).map (fun k => f.1 + k)))))))] H := fun k q hk => by
    match k, hk with
    | 0, hk => cases hk; exact ho
    | k + 1, hk => simp at hk
  have K := kk f l p e s m args below meth c H locs cells slots mc ms ls C Wd hM hS hl hB h1 h2
  have K2 : W p l e (gRm y mc ms) s m args below meth c H locs cells slots (MQ below (gQc f Q) args s mc ms (gA f)) (F0 m (pc + 1) ls (va_rf ((g i.toNatClampNeg).map (fun k => f.1 + k)) :: st.map (cvv f))) := by
    rw [hb]
    exact K
  match t, ht with
  | 3, _ => exact va_aldq C.1 C.2.1 Wd.1 hw 0 3 rfl rfl hi hd K2
  | 4, _ => exact va_aldq C.1 C.2.1 Wd.1 hw 0 4 rfl rfl hi hd K2
  | 5, _ => exact va_aldq C.1 C.2.1 Wd.1 hw 0 5 rfl rfl hi hd K2
  | 6, _ => exact va_aldq C.1 C.2.1 Wd.1 hw 0 6 rfl rfl hi hd K2
theorem G_sld {i : Int32} (hd : decode y.2.1 pc = .ok (.iaload, 1)) (hi : vp_in i sc.1) (kk : G sc y (pc + 1) L (aI (sc.2 i.toNatClampNeg) :: st) M Q) : G sc y pc L (aI i :: aE 1 :: st) M Q := by
  intro f l p e s m args below meth c H locs cells slots mc ms ls C Wd hM hS hl hB h1 h2
  have hW2 := Wd.2.1
  have g1 : f.2.2.2 0 < s.heap.size := by omega
  have g2 : ¬ gA f (f.2.2.2 0) := by show ¬ f.1 ≤ _; omega
  exact va_sld C.1 C.2.1 hW2.1 g1 g2 hS hi hd (kk f l p e s m args below meth c H locs cells slots mc ms ls C Wd hM hS hl hB h1 h2)
theorem G_slen (hd : decode y.2.1 pc = .ok (.arraylength, 1)) (kk : G sc y (pc + 1) L (aI (Int32.ofNat sc.1) :: st) M Q) : G sc y pc L (aE 1 :: st) M Q := by
  intro f l p e s m args below meth c H locs cells slots mc ms ls C Wd hM hS hl hB h1 h2
  have hW2 := Wd.2.1
  have g1 : f.2.2.2 0 < s.heap.size := by omega
  have g2 : ¬ gA f (f.2.2.2 0) := by show ¬ f.1 ≤ _; omega
  exact va_slen C.1 C.2.1 hW2.1 g1 g2 hS hd (kk f l p e s m args below meth c H locs cells slots mc ms ls C Wd hM hS hl hB h1 h2)
end GM
