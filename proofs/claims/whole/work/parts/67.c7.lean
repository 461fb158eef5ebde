/-! the class: Fit's small methods -/
theorem ThK_t : ∀ t, t < 12 → ThK (289 + 7 * t) := by unfold ThK; decide
theorem SpIs.fr {S S' : ST} {a n m : Nat} {b e : Nat → Int32} {px : Nat → Nat → Prop} {pi : Nat → Prop} (h : SpIs S a b n e m) (g : Fr px pi S S') (h2 : ¬ pi (a + 6)) : SpIs S' a b n e m := fun x y hx hy => by
  obtain ⟨v, h1, h3, h4⟩ := h x y hx hy
  exact ⟨v, h1, (g.2.1 _ h2 _).trans h3, h4⟩
/-- the shown things' cells in S, in S0's words -/
def ThF (S0 S : ST) (ts : List Nat) : Prop := ∀ t ∈ ts, LnIs S (289 + 7 * t) (lnB S0 t) (szN S0 t) ∧ PlIs S (289 + 7 * t) (lnB S0 t) (szN S0 t) ∧ EnIs S (289 + 7 * t) (enB S0 t) (esN S0 t) ∧ SpIs S (289 + 7 * t) (lnB S0 t) (szN S0 t) (enB S0 t) (esN S0 t)
theorem ThF.fr {S0 S S' : ST} {ts : List Nat} {px : Nat → Nat → Prop} {pi : Nat → Prop} (h : ThF S0 S ts) (g : Fr px pi S S') (h1 : ∀ a j, 289 ≤ a → ¬ px a j) (h2 : ∀ a, 289 ≤ a → ¬ pi a) : ThF S0 S' ts := fun t ht => by
  obtain ⟨a1, a2, a3, a4⟩ := h t ht
  exact ⟨a1.fr g (h1 _ _ (by omega)) (h2 _ (by omega)), a2.fr g (h2 _ (by omega)), a3.fr g (h1 _ _ (by omega)) (h2 _ (by omega)), a4.fr g (h2 _ (by omega))⟩
def fuN (S : ST) (ts : List Nat) : Nat := pkd (esN S) ts
def stpN (ts : List Nat) : Nat := pkd (fun _ => 1) ts
/-- what Fit knows of the shown things -/
def FtH (S0 S : ST) (ts : List Nat) : Prop := S.1 6 1 = nI ts.length ∧ S.1 6 2 = nI (fuN S0 ts) ∧ S.1 6 3 = nI (stpN ts) ∧ (∀ k, k < ts.length → S.2.2 k = some (289 + 7 * ts.getD k 0)) ∧ ThF S0 S ts
abbrev ftX (a j : Nat) : Prop := (a = 6 ∧ 5 ≤ j) ∨ (12 ≤ a ∧ a ≤ 149)
abbrev ftA (a : Nat) : Prop := 8 ≤ a ∧ a ≤ 149
theorem FtH.fr {S0 S S' : ST} {ts : List Nat} (h : FtH S0 S ts) (g : Fr ftX ftA S S') : FtH S0 S' ts := by
  obtain ⟨a1, a2, a3, a4, a5⟩ := h
  exact ⟨(g.1 6 1 (by omega)).trans a1, (g.1 6 2 (by omega)).trans a2, (g.1 6 3 (by omega)).trans a3, fun k hk => by rw [g.2.2]; exact a4 k hk, a5.fr g (fun a j q => by omega) (fun a q => by omega)⟩
def FsIs (S : ST) (FF : List (Nat × Nat)) : Prop := S.1 6 9 = nI FF.length ∧ ∀ i, i < FF.length → S.2.1 9 i = nI (FF.getD i (0, 0)).1 ∧ S.2.1 10 i = nI (FF.getD i (0, 0)).2
def WhIs (S : ST) (W : List Nat) : Prop := S.1 6 12 = nI W.length ∧ ∀ i, i < W.length → S.2.1 20 i = nI (W.getD i 0)
theorem FsIs.k {S S' : ST} {FF : List (Nat × Nat)} (h : FsIs S FF) (h1 : S'.1 6 9 = S.1 6 9) (h2 : ∀ i, S'.2.1 9 i = S.2.1 9 i) (h3 : ∀ i, S'.2.1 10 i = S.2.1 10 i) : FsIs S' FF := ⟨h1.trans h.1, fun i hi => ⟨(h2 i).trans (h.2 i hi).1, (h3 i).trans (h.2 i hi).2⟩⟩
theorem WhIs.k {S S' : ST} {W : List Nat} (h : WhIs S W) (h1 : S'.1 6 12 = S.1 6 12) (h2 : ∀ i, S'.2.1 20 i = S.2.1 20 i) : WhIs S' W := ⟨h1.trans h.1, fun i hi => (h2 i).trans (h.2 i hi)⟩
theorem FsIs.push {S : ST} {FF : List (Nat × Nat)} {p L : Nat} (h : FsIs S FF) : FsIs (upX (upI (upI S 9 FF.length (nI p)) 10 FF.length (nI L)) 6 9 (nI (FF.length + 1))) (FF ++ [(p, L)]) := by
  refine ⟨by rw [upX_s]; simp, fun i hi => ?_⟩
  show (upI (upI S 9 FF.length (nI p)) 10 FF.length (nI L)).2.1 9 i = _ ∧ (upI (upI S 9 FF.length (nI p)) 10 FF.length (nI L)).2.1 10 i = _
  by_cases e : i = FF.length
  · subst e
    rw [upI_n (by omega), upI_s, upI_s, getD_last]
    exact ⟨rfl, rfl⟩
  · have hi : i < FF.length := by simp at hi; omega
    rw [upI_n (by omega), upI_n (by omega), upI_n (by omega), upI_n (by omega), getD_app hi]
    exact h.2 i hi
theorem WhIs.push {S : ST} {W : List Nat} {p : Nat} (h : WhIs S W) : WhIs (upX (upI S 20 W.length (nI p)) 6 12 (nI (W.length + 1))) (W ++ [p]) := by
  refine ⟨by rw [upX_s]; simp, fun i hi => ?_⟩
  show (upI S 20 W.length (nI p)).2.1 20 i = _
  by_cases e : i = W.length
  · subst e
    rw [upI_s]
    simp
  · have hi : i < W.length := by simp at hi; omega
    rw [upI_n (by omega), h.2 i hi, List.getD_eq_getElem?_getD, List.getD_eq_getElem?_getD, List.getElem?_append_left hi]
abbrev afX (a j : Nat) : Prop := a = 6 ∧ (j = 9 ∨ j = 12)
abbrev afA (a : Nat) : Prop := a = 9 ∨ a = 10 ∨ a = 20
theorem ft_af {S S' : ST} (h : Fr afX afA S S') : Fr ftX ftA S S' := h.mono (fun a j q => by rcases q with ⟨q, z⟩; left; constructor; exact q; omega) (fun a q => by constructor <;> omega)
theorem ft_la {S S' : ST} (h : Fr laX laA S S') : Fr ftX ftA S S' := h.mono (fun a j q => by right; omega) (fun a q => by constructor <;> omega)
theorem LaIs.af {S S' : ST} {LB : List (Nat × Nat)} {g : Nat} (h : LaIs S LB g) (f : Fr afX afA S S') : LaIs S' LB g := h.k (fun j => f.1 12 j (by omega)) (fun a h1 h2 j => f.2.1 a (by omega) j)
section C7
variable {sc : SC} {S : ST} {Q : Option AV → HM → Prop}
theorem G_mmin {y : MI} {pc i : Nat} {L : List (Option AV)} {st : List AV} {M : HM} {x z : Int32} (hd : decode y.2.1 pc = .ok (.invokestatic i, 3)) (hz : mS mJ9_min_7cf53 2) (hlk : lkB y mJ9_min_7cf53 i) (hcat : Nat.ble (gCat st) 6 = true) (hn : M.2.1 ≤ M.2.2.2.1) (hs : M.2.2.1 ≤ M.2.2.2.2) (kk : G sc y (pc + 3) L (aI (if z < x then z else x) :: st) M Q) : G sc y pc L (aI z :: aI x :: st) M Q := by
  intro f l p e s m args below meth c H locs cells slots mc ms ls C Wd hM hS hl hB h1 h2
  obtain ⟨z1, z2, z3, z4⟩ := mB_spec hz.2
  have hc : gCat st ≤ 6 := Nat.le_of_ble_eq_true hcat
  have hlo : 8 + (2 + 11) + 0 ≤ y.2.2.2.2.2 := hlk.2.2
  exact va_mmin C.1 C.2.1 (by rw [C.2.2.1]; exact hl.1.symm) C.2.2.2.1 (C.2.2.2.2.1 _ hlk.1) (C.2.2.2.2.1 _ hz.1) (C.2.2.2.2.1 _ z1) (C.2.2.2.2.1 _ z2) (by show 1 ≤ y.2.2.2.2.1; exact hlk.2.1) (by rw [gCat_eq]; show gCat st + 13 ≤ y.2.2.2.2.2; omega) (by show cells ≤ mc; omega) (by show slots ≤ ms; omega) hd (kk f l p e s m args below meth c H locs cells slots mc ms ls C Wd hM hS hl hB h1 h2)
theorem S_mmin {y : MI} {pc i : Nat} {L : List (Option AV)} {st : List AV} {a b : Nat} (hd : decode y.2.1 pc = .ok (.invokestatic i, 3)) (hz : mS mJ9_min_7cf53 2) (hlk : lkB y mJ9_min_7cf53 i) (hcat : Nat.ble (gCat st) 6 = true) (hb : a < 2147483648 ∧ b < 2147483648) (kk : G sc y (pc + 3) L (aI (nI (min a b)) :: st) (mk S) Q) : G sc y pc L (aI (nI b) :: aI (nI a) :: st) (mk S) Q := by
  refine G_mmin hd hz hlk hcat (Nat.le_refl _) (Nat.le_refl _) ?_
  have e : (if nI b < nI a then nI b else nI a) = nI (min a b) := by
    by_cases h : b < a
    · rw [if_pos ((nI_ltI hb.2 hb.1).mpr h), show min a b = b by omega]
    · rw [if_neg (fun q => h ((nI_ltI hb.2 hb.1).mp q)), show min a b = a by omega]
  rw [e]
  exact kk
theorem G_mmax {y : MI} {pc i : Nat} {L : List (Option AV)} {st : List AV} {M : HM} {x z : Int32} (hd : decode y.2.1 pc = .ok (.invokestatic i, 3)) (hz : mS mJ9_max_7cf53 2) (hlk : lkB y mJ9_max_7cf53 i) (hcat : Nat.ble (gCat st) 6 = true) (hn : M.2.1 ≤ M.2.2.2.1) (hs : M.2.2.1 ≤ M.2.2.2.2) (kk : G sc y (pc + 3) L (aI (if x < z then z else x) :: st) M Q) : G sc y pc L (aI z :: aI x :: st) M Q := by
  intro f l p e s m args below meth c H locs cells slots mc ms ls C Wd hM hS hl hB h1 h2
  obtain ⟨z1, z2, z3, z4⟩ := mB_spec hz.2
  have hc : gCat st ≤ 6 := Nat.le_of_ble_eq_true hcat
  have hlo : 8 + (2 + 11) + 0 ≤ y.2.2.2.2.2 := hlk.2.2
  exact va_mmax C.1 C.2.1 (by rw [C.2.2.1]; exact hl.1.symm) C.2.2.2.1 (C.2.2.2.2.1 _ hlk.1) (C.2.2.2.2.1 _ hz.1) (C.2.2.2.2.1 _ z1) (C.2.2.2.2.1 _ z2) (by show 1 ≤ y.2.2.2.2.1; exact hlk.2.1) (by rw [gCat_eq]; show gCat st + 13 ≤ y.2.2.2.2.2; omega) (by show cells ≤ mc; omega) (by show slots ≤ ms; omega) hd (kk f l p e s m args below meth c H locs cells slots mc ms ls C Wd hM hS hl hB h1 h2)
theorem S_mmax {y : MI} {pc i : Nat} {L : List (Option AV)} {st : List AV} {a b : Nat} (hd : decode y.2.1 pc = .ok (.invokestatic i, 3)) (hz : mS mJ9_max_7cf53 2) (hlk : lkB y mJ9_max_7cf53 i) (hcat : Nat.ble (gCat st) 6 = true) (hb : a < 2147483648 ∧ b < 2147483648) (kk : G sc y (pc + 3) L (aI (nI (max a b)) :: st) (mk S) Q) : G sc y pc L (aI (nI b) :: aI (nI a) :: st) (mk S) Q := by
  refine G_mmax hd hz hlk hcat (Nat.le_refl _) (Nat.le_refl _) ?_
  have e : (if nI a < nI b then nI b else nI a) = nI (max a b) := by
    by_cases h : a < b
    · rw [if_pos ((nI_ltI hb.1 hb.2).mpr h), show max a b = b by omega]
    · rw [if_neg (fun q => h ((nI_ltI hb.1 hb.2).mp q)), show max a b = a by omega]
  rw [e]
  exact kk
def hmN (w p t k : Nat) : Nat := if k = 1 then w else if k = 2 then p else if k = 3 then t else w + p + t
set_option maxRecDepth 100000 in
set_option maxHeartbeats 4000000 in
theorem sX0_howMany {w p t k : Nat} (hk : k ≤ 3) (hw : S.1 6 12 = nI w) (hp : S.1 6 13 = nI p) (ht : S.1 6 14 = nI t) (h : Q (some (aI (nI (hmN w p t k)))) (mk S)) : CT sc mX0_howMany [aR 6, aI (nI k)] (mk S) Q := by
  refine S_of (by decide) rfl ?_
  show G sc mX0_howMany 0 [some (aR 6), some (aI (nI k))] [] (mk S) Q
  rcases (show k = 1 ∨ k = 2 ∨ k = 3 ∨ k = 0 by omega) with rfl | rfl | rfl | rfl
  · skip
    refine G_iload_n (pc := 0) dX0_howMany_0 rfl rfl ?_
    refine G_tableIn (pc := 1) (tgt := 28) dX0_howMany_1 (by decide) (by decide) (off := 27) rfl (by decide) ?_
    refine G_aload_n (pc := 28) dX0_howMany_28 rfl rfl ?_
    refine S_getI (pc := 29) dX0_howMany_29 fX0_57 rfl (by first | rfl | assumption) rfl ?_
    rw [hw]
    refine S_iret (pc := 32) dX0_howMany_32 rfl ?_
    exact h
  · skip
    refine G_iload_n (pc := 0) dX0_howMany_0 rfl rfl ?_
    refine G_tableIn (pc := 1) (tgt := 33) dX0_howMany_1 (by decide) (by decide) (off := 32) rfl (by decide) ?_
    refine G_aload_n (pc := 33) dX0_howMany_33 rfl rfl ?_
    refine S_getI (pc := 34) dX0_howMany_34 fX0_60 rfl (by first | rfl | assumption) rfl ?_
    rw [hp]
    refine S_iret (pc := 37) dX0_howMany_37 rfl ?_
    exact h
  · skip
    refine G_iload_n (pc := 0) dX0_howMany_0 rfl rfl ?_
    refine G_tableIn (pc := 1) (tgt := 38) dX0_howMany_1 (by decide) (by decide) (off := 37) rfl (by decide) ?_
    refine G_aload_n (pc := 38) dX0_howMany_38 rfl rfl ?_
    refine S_getI (pc := 39) dX0_howMany_39 fX0_63 rfl (by first | rfl | assumption) rfl ?_
    rw [ht]
    refine S_iret (pc := 42) dX0_howMany_42 rfl ?_
    exact h
  · skip
    refine G_iload_n (pc := 0) dX0_howMany_0 rfl rfl ?_
    refine G_tableOut (pc := 1) (tgt := 43) dX0_howMany_1 (by decide) (by decide) ?_
    refine G_aload_n (pc := 43) dX0_howMany_43 rfl rfl ?_
    refine S_getI (pc := 44) dX0_howMany_44 fX0_57 rfl (by first | rfl | assumption) rfl ?_
    rw [hw]
    refine G_aload_n (pc := 47) dX0_howMany_47 rfl rfl ?_
    refine S_getI (pc := 48) dX0_howMany_48 fX0_60 rfl (by first | rfl | assumption) rfl ?_
    rw [hp]
    refine N_iadd (pc := 51) dX0_howMany_51 ?_
    refine G_aload_n (pc := 52) dX0_howMany_52 rfl rfl ?_
    refine S_getI (pc := 53) dX0_howMany_53 fX0_63 rfl (by first | rfl | assumption) rfl ?_
    rw [ht]
    refine N_iadd (pc := 56) dX0_howMany_56 ?_
    refine S_iret (pc := 57) dX0_howMany_57 rfl ?_
    exact h
set_option maxRecDepth 100000 in
set_option maxHeartbeats 4000000 in
theorem sX0_addFirst {p L fu : Nat} {FF : List (Nat × Nat)} {W : List Nat} (hfu : S.1 6 2 = nI fu) (hb : L < 65536 ∧ fu < 65536) (hF : FsIs S FF) (hW : WhIs S W) (hFl : FF.length < 4803) (hWl : W.length < 4803)
    (h1 : L = fu → ∀ S', Fr afX afA S S' → FsIs S' FF → WhIs S' (W ++ [p]) → Q none (mk S')) (h2 : ¬ L = fu → ∀ S', Fr afX afA S S' → FsIs S' (FF ++ [(p, L)]) → WhIs S' W → Q none (mk S')) : CT sc mX0_addFirst [aR 6, aI (nI p), aI (nI L)] (mk S) Q := by
  refine S_of (by decide) rfl ?_
  show G sc mX0_addFirst 0 [some (aR 6), some (aI (nI p)), some (aI (nI L))] [] (mk S) Q
  refine G_iload_n (pc := 0) dX0_addFirst_0 rfl rfl ?_
  refine G_aload_n (pc := 1) dX0_addFirst_1 rfl rfl ?_
  refine S_getI (pc := 2) dX0_addFirst_2 fX0_21 rfl (by first | rfl | assumption) rfl ?_
  rw [hfu]
  refine N_icmp_ne (pc := 5) (tgt := 41) dX0_addFirst_5 (by decide) (by omega) (fun c5 => ?_) (fun c5 => ?_)
  · skip
    refine G_iload_n (pc := 41) dX0_addFirst_41 rfl rfl ?_
    refine G_aload_n (pc := 42) dX0_addFirst_42 rfl rfl ?_
    refine S_getI (pc := 43) dX0_addFirst_43 fX0_21 rfl (by first | rfl | assumption) rfl ?_
    rw [hfu]
    refine N_icmp_eq (pc := 46) (tgt := 89) dX0_addFirst_46 (by decide) (by omega) (fun c46 => absurd c46 (by omega)) (fun c46 => ?_)
    refine G_aload_n (pc := 49) dX0_addFirst_49 rfl rfl ?_
    refine S_getI (pc := 50) dX0_addFirst_50 fX0_46 rfl (by first | rfl | assumption) rfl ?_
    rw [hF.1]
    refine G_sipush (pc := 53) (v := nI 4803) dX0_addFirst_53 (by decide) ?_
    refine N_icmp_ge (pc := 56) (tgt := 89) dX0_addFirst_56 (by decide) (by omega) (fun c56 => absurd c56 (by omega)) (fun c56 => ?_)
    refine G_aload_n (pc := 59) dX0_addFirst_59 rfl rfl ?_
    refine S_getR (pc := 60) (b := 9) dX0_addFirst_60 fX0_36 rfl rfl (by first | rfl | assumption) rfl rfl ?_
    refine G_aload_n (pc := 63) dX0_addFirst_63 rfl rfl ?_
    refine S_getI (pc := 64) dX0_addFirst_64 fX0_46 rfl (by first | rfl | assumption) rfl ?_
    rw [hF.1]
    refine G_iload_n (pc := 67) dX0_addFirst_67 rfl rfl ?_
    refine N_iast (pc := 68) dX0_addFirst_68 (by first | rfl | assumption) (by first | rfl | assumption) (by omega) ?_
    refine G_aload_n (pc := 69) dX0_addFirst_69 rfl rfl ?_
    refine S_getR (pc := 70) (b := 10) dX0_addFirst_70 fX0_39 rfl rfl (by first | rfl | assumption) rfl rfl ?_
    refine G_aload_n (pc := 73) dX0_addFirst_73 rfl rfl ?_
    refine S_getI (pc := 74) dX0_addFirst_74 fX0_46 rfl (by first | rfl | assumption) rfl ?_
    rw [show (upI S 9 FF.length (nI p)).1 6 9 = nI FF.length from hF.1]
    refine G_iload_n (pc := 77) dX0_addFirst_77 rfl rfl ?_
    refine N_iast (pc := 78) dX0_addFirst_78 (by first | rfl | assumption) (by first | rfl | assumption) (by omega) ?_
    refine G_aload_n (pc := 79) dX0_addFirst_79 rfl rfl ?_
    refine G_dup (pc := 80) dX0_addFirst_80 rfl ?_
    refine S_getI (pc := 81) dX0_addFirst_81 fX0_46 rfl (by first | rfl | assumption) rfl ?_
    rw [show (upI (upI S 9 FF.length (nI p)) 10 FF.length (nI L)).1 6 9 = nI FF.length from hF.1]
    refine G_iconst (pc := 84) (v := nI 1) dX0_addFirst_84 (by decide) ?_
    refine N_iadd (pc := 85) dX0_addFirst_85 ?_
    refine S_putI (pc := 86) dX0_addFirst_86 fX0_46 (by decide) rfl (by first | rfl | assumption) rfl ?_
    refine S_vret (pc := 89) dX0_addFirst_89 rfl ?_
    first
    | exact h1 c5 _ (Fr.tr (Fr.upI (Or.inr (Or.inr rfl))) (Fr.upX ⟨rfl, Or.inr rfl⟩)) (hF.k (upX_n (by omega)) (fun i => upI_n (by omega)) (fun i => upI_n (by omega))) hW.push
    | exact h2 c5 _ (Fr.tr (Fr.tr (Fr.upI (Or.inl rfl)) (Fr.upI (Or.inr (Or.inl rfl)))) (Fr.upX ⟨rfl, Or.inl rfl⟩)) hF.push (hW.k (upX_n (by omega)) (fun i => (upI_n (by omega)).trans (upI_n (by omega))))
  · skip
    refine G_aload_n (pc := 8) dX0_addFirst_8 rfl rfl ?_
    refine S_getI (pc := 9) dX0_addFirst_9 fX0_57 rfl (by first | rfl | assumption) rfl ?_
    rw [hW.1]
    refine G_sipush (pc := 12) (v := nI 4803) dX0_addFirst_12 (by decide) ?_
    refine N_icmp_ge (pc := 15) (tgt := 41) dX0_addFirst_15 (by decide) (by omega) (fun c15 => absurd c15 (by omega)) (fun c15 => ?_)
    refine G_aload_n (pc := 18) dX0_addFirst_18 rfl rfl ?_
    refine S_getR (pc := 19) (b := 20) dX0_addFirst_19 fX0_54 rfl rfl (by first | rfl | assumption) rfl rfl ?_
    refine G_aload_n (pc := 22) dX0_addFirst_22 rfl rfl ?_
    refine S_getI (pc := 23) dX0_addFirst_23 fX0_57 rfl (by first | rfl | assumption) rfl ?_
    rw [hW.1]
    refine G_iload_n (pc := 26) dX0_addFirst_26 rfl rfl ?_
    refine N_iast (pc := 27) dX0_addFirst_27 (by first | rfl | assumption) (by first | rfl | assumption) (by omega) ?_
    refine G_aload_n (pc := 28) dX0_addFirst_28 rfl rfl ?_
    refine G_dup (pc := 29) dX0_addFirst_29 rfl ?_
    refine S_getI (pc := 30) dX0_addFirst_30 fX0_57 rfl (by first | rfl | assumption) rfl ?_
    rw [show (upI S 20 W.length (nI p)).1 6 12 = nI W.length from hW.1]
    refine G_iconst (pc := 33) (v := nI 1) dX0_addFirst_33 (by decide) ?_
    refine N_iadd (pc := 34) dX0_addFirst_34 ?_
    refine S_putI (pc := 35) dX0_addFirst_35 fX0_57 (by decide) rfl (by first | rfl | assumption) rfl ?_
    refine G_goto (pc := 38) (tgt := 89) dX0_addFirst_38 (by decide) ?_
    refine S_vret (pc := 89) dX0_addFirst_89 rfl ?_
    first
    | exact h1 c5 _ (Fr.tr (Fr.upI (Or.inr (Or.inr rfl))) (Fr.upX ⟨rfl, Or.inr rfl⟩)) (hF.k (upX_n (by omega)) (fun i => upI_n (by omega)) (fun i => upI_n (by omega))) hW.push
    | exact h2 c5 _ (Fr.tr (Fr.tr (Fr.upI (Or.inl rfl)) (Fr.upI (Or.inr (Or.inl rfl)))) (Fr.upX ⟨rfl, Or.inl rfl⟩)) hF.push (hW.k (upX_n (by omega)) (fun i => (upI_n (by omega)).trans (upI_n (by omega))))
/-- the least end -/
def mnG (S : ST) : List Nat → Nat → Nat
  | [], a => a
  | t :: r, a => mnG S r (min a (esN S t))
theorem mnG_iff {S : ST} {k : Nat} : ∀ (r : List Nat) (a : Nat), k < mnG S r a ↔ k < a ∧ ∀ t ∈ r, k < esN S t
  | [], a => ⟨fun h => ⟨h, fun t ht => by cases ht⟩, fun h => h.1⟩
  | t :: r, a => by
    unfold mnG
    rw [mnG_iff r]
    constructor
    · intro h
      refine ⟨by omega, fun x hx => ?_⟩
      rcases List.mem_cons.mp hx with z | z
      · subst z; omega
      · exact h.2 x z
    · intro h
      have := h.2 t List.mem_cons_self
      exact ⟨by omega, fun x hx => h.2 x (List.mem_cons_of_mem _ hx)⟩
theorem mnG_le {S : ST} : ∀ (r : List Nat) (a : Nat), mnG S r a ≤ a
  | [], a => Nat.le_refl _
  | t :: r, a => by
    have := mnG_le (S := S) r (min a (esN S t))
    unfold mnG
    omega
set_option maxRecDepth 100000 in
set_option maxHeartbeats 4000000 in
theorem leastSize_lp {S0 : ST} {z : Nat} (hz : z ≤ 4) (hc : S.1 6 1 = nI z) :
    ∀ (r : List Nat) (k a : Nat), k + r.length = z → (∀ i, i < r.length → S.2.2 (k + i) = some (289 + 7 * r.getD i 0)) → (∀ t ∈ r, t < 12 ∧ S.1 (289 + 7 * t + 4) 1 = nI (esN S0 t) ∧ esN S0 t ≤ 12) → a ≤ 12 → Q (some (aI (nI (mnG S0 r a)))) (mk S) →
      G sc mX0_leastSize 5 [some (aR 6), some (aI (nI a)), some (aI (nI k))] [] (mk S) Q := by
  intro r
  induction r with
  | nil =>
    intro k a hk _ _ ha h
    have hk : k + 0 = z := hk
    refine G_iload_n (pc := 5) dX0_leastSize_5 rfl rfl ?_
    refine G_aload_n (pc := 6) dX0_leastSize_6 rfl rfl ?_
    refine S_getI (pc := 7) dX0_leastSize_7 fX0_17 rfl (by first | rfl | assumption) rfl ?_
    rw [hc]
    refine N_icmp_ge (pc := 10) (tgt := 36) dX0_leastSize_10 (by decide) (by omega) (fun c10 => ?_) (fun c10 => absurd c10 (by omega))
    refine G_iload_n (pc := 36) dX0_leastSize_36 rfl rfl ?_
    refine S_iret (pc := 37) dX0_leastSize_37 rfl ?_
    exact h
  | cons t r ih =>
    intro k a hk hs ht ha h
    have hk : k + (r.length + 1) = z := hk
    obtain ⟨t1, t2, t3⟩ := ht t List.mem_cons_self
    obtain ⟨k0, k1, k2, k3, k4, k5, k6⟩ := ThK_t t t1
    have hsk : S.2.2 k = some (289 + 7 * t) := hs 0 (by simp)
    refine G_iload_n (pc := 5) dX0_leastSize_5 rfl rfl ?_
    refine G_aload_n (pc := 6) dX0_leastSize_6 rfl rfl ?_
    refine S_getI (pc := 7) dX0_leastSize_7 fX0_17 rfl (by first | rfl | assumption) rfl ?_
    rw [hc]
    refine N_icmp_ge (pc := 10) (tgt := 36) dX0_leastSize_10 (by decide) (by omega) (fun c10 => absurd c10 (by omega)) (fun c10 => ?_)
    refine G_iload_n (pc := 13) dX0_leastSize_13 rfl rfl ?_
    refine G_aload_n (pc := 14) dX0_leastSize_14 rfl rfl ?_
    refine S_getR (pc := 15) (b := 7) dX0_leastSize_15 fX0_11 rfl rfl (by first | rfl | assumption) rfl rfl ?_
    refine G_iload_n (pc := 18) dX0_leastSize_18 rfl rfl ?_
    refine N_aald (pc := 19) (t := 3) (n := 4) (b := 289 + 7 * t) dX0_leastSize_19 (by first | rfl | assumption) (by first | rfl | assumption) (by decide) (by omega) hsk ?_
    refine S_getR (pc := 20) (b := 289 + 7 * t + 4) dX0_leastSize_20 fX0_79 rfl rfl (by first | rfl | assumption) rfl rfl ?_
    refine S_getI (pc := 23) dX0_leastSize_23 fX0_83 rfl (by first | rfl | assumption) rfl ?_
    rw [t2]
    refine S_mmin (pc := 26) dX0_leastSize_26 zJ9_min_7cf53 lX0_leastSize_122 rfl (by omega) ?_
    refine G_istore_n (pc := 29) dX0_leastSize_29 rfl (by decide) rfl ?_
    refine N_iinc (pc := 30) dX0_leastSize_30 rfl (by decide) rfl ?_
    refine G_goto (pc := 33) (tgt := 5) dX0_leastSize_33 (by decide) ?_
    exact ih (k + 1) _ (by omega) (fun i hi => by rw [show k + 1 + i = k + (i + 1) by omega, hs (i + 1) (by simp; omega)]; simp) (fun x hx => ht x (List.mem_cons_of_mem _ hx)) (by omega) h
set_option maxRecDepth 100000 in
set_option maxHeartbeats 4000000 in
theorem sX0_leastSize {S0 : ST} {ts : List Nat} (hts : TsOk S0 ts) (hH : FtH S0 S ts) (h : Q (some (aI (nI (mnG S0 ts 12)))) (mk S)) : CT sc mX0_leastSize [aR 6] (mk S) Q := by
  refine S_of (by decide) rfl ?_
  show G sc mX0_leastSize 0 [some (aR 6), none, none] [] (mk S) Q
  refine G_bipush (pc := 0) (v := nI 12) dX0_leastSize_0 (by decide) ?_
  refine G_istore_n (pc := 2) dX0_leastSize_2 rfl (by decide) rfl ?_
  refine G_iconst (pc := 3) (v := nI 0) dX0_leastSize_3 (by decide) ?_
  refine G_istore_n (pc := 4) dX0_leastSize_4 rfl (by decide) rfl ?_
  exact leastSize_lp hts.1 hH.1 ts 0 12 (by omega) (fun i hi => by rw [Nat.zero_add]; exact hH.2.2.2.1 i hi) (fun t ht => ⟨(hts.2 t ht).1, (hH.2.2.2.2 t ht).2.2.1.1, (hts.2 t ht).2.2.2.2.2⟩) (by omega) h
abbrev clX (a _ : Nat) : Prop := a = 6 ∨ a = 12
set_option maxRecDepth 100000 in
set_option maxHeartbeats 4000000 in
theorem sX0_clear {LB : List (Nat × Nat)} {g : Nat} (hL : LaIs S LB g) (h : ∀ S', Fr clX laA S S' → (∀ j, j = 1 ∨ j = 2 ∨ j = 3 ∨ j = 9 ∨ j = 12 ∨ j = 13 ∨ j = 14 ∨ j = 16 → S'.1 6 j = nI 0) → LaIs S' [] 0 → Q none (mk S')) : CT sc mX0_clear [aR 6] (mk S) Q := by
  refine S_of (by decide) rfl ?_
  show G sc mX0_clear 0 [some (aR 6)] [] (mk S) Q
  refine G_aload_n (pc := 0) dX0_clear_0 rfl rfl ?_
  refine G_iconst (pc := 1) (v := nI 0) dX0_clear_1 (by decide) ?_
  refine S_putI (pc := 2) dX0_clear_2 fX0_17 (by decide) rfl (by first | rfl | assumption) rfl ?_
  refine G_aload_n (pc := 5) dX0_clear_5 rfl rfl ?_
  refine G_iconst (pc := 6) (v := nI 0) dX0_clear_6 (by decide) ?_
  refine S_putI (pc := 7) dX0_clear_7 fX0_21 (by decide) rfl (by first | rfl | assumption) rfl ?_
  refine G_aload_n (pc := 10) dX0_clear_10 rfl rfl ?_
  refine G_iconst (pc := 11) (v := nI 0) dX0_clear_11 (by decide) ?_
  refine S_putI (pc := 12) dX0_clear_12 fX0_24 (by decide) rfl (by first | rfl | assumption) rfl ?_
  refine G_aload_n (pc := 15) dX0_clear_15 rfl rfl ?_
  refine G_iconst (pc := 16) (v := nI 0) dX0_clear_16 (by decide) ?_
  refine S_putI (pc := 17) dX0_clear_17 fX0_46 (by decide) rfl (by first | rfl | assumption) rfl ?_
  refine G_aload_n (pc := 20) dX0_clear_20 rfl rfl ?_
  refine S_getR (pc := 21) (b := 12) dX0_clear_21 fX0_50 rfl rfl (by first | rfl | assumption) rfl rfl ?_
  refine S_callV (av := []) (pc := 24) (z := mX2_clear) (ci := 1) dX0_clear_24 zX2_clear lX0_clear_76 rfl (by first | rfl | assumption) rfl rfl (sX2_clear (hL.k (fun j => by rw [upX_n (by omega), upX_n (by omega), upX_n (by omega), upX_n (by omega)]) (fun _ _ _ _ => rfl)) (fun S1 w1 w2 => ⟨_, rfl, ?_⟩))
  refine G_aload_n (pc := 27) dX0_clear_27 rfl rfl ?_
  refine G_iconst (pc := 28) (v := nI 0) dX0_clear_28 (by decide) ?_
  refine S_putI (pc := 29) dX0_clear_29 fX0_57 (by decide) rfl (by first | rfl | assumption) rfl ?_
  refine G_aload_n (pc := 32) dX0_clear_32 rfl rfl ?_
  refine G_iconst (pc := 33) (v := nI 0) dX0_clear_33 (by decide) ?_
  refine S_putI (pc := 34) dX0_clear_34 fX0_60 (by decide) rfl (by first | rfl | assumption) rfl ?_
  refine G_aload_n (pc := 37) dX0_clear_37 rfl rfl ?_
  refine G_iconst (pc := 38) (v := nI 0) dX0_clear_38 (by decide) ?_
  refine S_putI (pc := 39) dX0_clear_39 fX0_63 (by decide) rfl (by first | rfl | assumption) rfl ?_
  refine G_aload_n (pc := 42) dX0_clear_42 rfl rfl ?_
  refine G_iconst (pc := 43) (v := nI 0) dX0_clear_43 (by decide) ?_
  refine S_putI (pc := 44) dX0_clear_44 fX0_72 (by decide) rfl (by first | rfl | assumption) rfl ?_
  refine S_vret (pc := 47) dX0_clear_47 rfl ?_
  refine h _ ?_ ?_ (w2.k (fun j => by rw [upX_n (by omega), upX_n (by omega), upX_n (by omega), upX_n (by omega)]) (fun _ _ _ _ => rfl))
  · exact Fr.tr (Fr.tr (Fr.tr (Fr.tr (Fr.tr (Fr.tr (Fr.tr (Fr.tr (Fr.upX (Or.inl rfl)) (Fr.upX (Or.inl rfl))) (Fr.upX (Or.inl rfl))) (Fr.upX (Or.inl rfl))) (w1.mono (fun a j q => Or.inr q.1) (fun a q => q))) (Fr.upX (Or.inl rfl))) (Fr.upX (Or.inl rfl))) (Fr.upX (Or.inl rfl))) (Fr.upX (Or.inl rfl))
  · intro j hj
    have e1 : ∀ j, S1.1 6 j = _ := fun j => w1.1 6 j (by omega)
    rcases hj with rfl | rfl | rfl | rfl | rfl | rfl | rfl | rfl <;> simp [upX, e1]
set_option maxRecDepth 100000 in
set_option maxHeartbeats 4000000 in
theorem sX0_take {a k fu sp m : Nat} (ha : ThK a) (hk : k < 4) (h1 : S.1 6 1 = nI k) (h2 : S.1 6 2 = nI fu) (h3 : S.1 6 3 = nI sp) (hfu : fu < 2 ^ (4 * k)) (hsp : sp < 2 ^ (4 * k)) (hm : S.1 (a + 4) 1 = nI m) (hm2 : m ≤ 15) (h : Q none (mk (upX (upX (upX (upS S k (some a)) 6 2 (nI (fu + m * 2 ^ (4 * k)))) 6 3 (nI (sp + 1 * 2 ^ (4 * k)))) 6 1 (nI (k + 1))))) : CT sc mX0_take [aR 6, aR a] (mk S) Q := by
  refine S_of (by decide) rfl ?_
  show G sc mX0_take 0 [some (aR 6), some (aR a)] [] (mk S) Q
  obtain ⟨k0, k1, k2, k3, k4, k5, k6⟩ := ha
  have hp := p16_le (show k ≤ 3 by omega)
  have hmp := Nat.mul_le_mul_right (2 ^ (4 * k)) hm2
  refine G_aload_n (pc := 0) dX0_take_0 rfl rfl ?_
  refine S_getI (pc := 1) dX0_take_1 fX0_17 rfl (by first | rfl | assumption) rfl ?_
  rw [h1]
  refine G_iconst (pc := 4) (v := nI 4) dX0_take_4 (by decide) ?_
  refine N_icmp_ge (pc := 5) (tgt := 68) dX0_take_5 (by decide) (by omega) (fun c5 => absurd c5 (by omega)) (fun c5 => ?_)
  refine G_aload_n (pc := 8) dX0_take_8 rfl rfl ?_
  refine S_getR (pc := 9) (b := 7) dX0_take_9 fX0_11 rfl rfl (by first | rfl | assumption) rfl rfl ?_
  refine G_aload_n (pc := 12) dX0_take_12 rfl rfl ?_
  refine S_getI (pc := 13) dX0_take_13 fX0_17 rfl (by first | rfl | assumption) rfl ?_
  rw [h1]
  refine G_aload_n (pc := 16) dX0_take_16 rfl rfl ?_
  refine S_aast (pc := 17) dX0_take_17 (by first | rfl | assumption) (vp_in_nI hk (by omega)) ?_
  rw [nI_clamp (by omega)]
  refine G_aload_n (pc := 18) dX0_take_18 rfl rfl ?_
  refine G_dup (pc := 19) dX0_take_19 rfl ?_
  refine S_getI (pc := 20) dX0_take_20 fX0_21 rfl (by first | rfl | assumption) rfl ?_
  rw [show (upS S k (some a)).1 6 2 = nI fu from h2]
  refine G_aload_n (pc := 23) dX0_take_23 rfl rfl ?_
  refine S_getR (pc := 24) (b := a + 4) dX0_take_24 fX0_79 rfl rfl (by first | rfl | assumption) rfl rfl ?_
  refine S_getI (pc := 27) dX0_take_27 fX0_83 rfl (by first | rfl | assumption) rfl ?_
  rw [show (upS S k (some a)).1 (a + 4) 1 = nI m from hm]
  refine G_iconst (pc := 30) (v := nI 4) dX0_take_30 (by decide) ?_
  refine G_aload_n (pc := 31) dX0_take_31 rfl rfl ?_
  refine S_getI (pc := 32) dX0_take_32 fX0_17 rfl (by first | rfl | assumption) rfl ?_
  rw [show (upS S k (some a)).1 6 1 = nI k from h1]
  refine N_imul (pc := 35) dX0_take_35 ?_
  refine G_ishl (pc := 36) dX0_take_36 ?_
  rw [shlN (by omega) (by omega)]
  refine G_ior (pc := 37) dX0_take_37 ?_
  rw [orN m hfu]
  refine S_putI (pc := 38) dX0_take_38 fX0_21 (by decide) rfl (by first | rfl | assumption) rfl ?_
  refine G_aload_n (pc := 41) dX0_take_41 rfl rfl ?_
  refine G_dup (pc := 42) dX0_take_42 rfl ?_
  refine S_getI (pc := 43) dX0_take_43 fX0_24 rfl (by first | rfl | assumption) rfl ?_
  rw [show (upX (upS S k (some a)) 6 2 (nI (fu + m * 2 ^ (4 * k)))).1 6 3 = nI sp from (upX_n (by omega)).trans h3]
  refine G_iconst (pc := 46) (v := nI 1) dX0_take_46 (by decide) ?_
  refine G_iconst (pc := 47) (v := nI 4) dX0_take_47 (by decide) ?_
  refine G_aload_n (pc := 48) dX0_take_48 rfl rfl ?_
  refine S_getI (pc := 49) dX0_take_49 fX0_17 rfl (by first | rfl | assumption) rfl ?_
  rw [show (upX (upS S k (some a)) 6 2 (nI (fu + m * 2 ^ (4 * k)))).1 6 1 = nI k from (upX_n (by omega)).trans h1]
  refine N_imul (pc := 52) dX0_take_52 ?_
  refine G_ishl (pc := 53) dX0_take_53 ?_
  rw [shlN (by omega) (by omega)]
  refine G_ior (pc := 54) dX0_take_54 ?_
  rw [orN 1 hsp]
  refine S_putI (pc := 55) dX0_take_55 fX0_24 (by decide) rfl (by first | rfl | assumption) rfl ?_
  refine G_aload_n (pc := 58) dX0_take_58 rfl rfl ?_
  refine G_dup (pc := 59) dX0_take_59 rfl ?_
  refine S_getI (pc := 60) dX0_take_60 fX0_17 rfl (by first | rfl | assumption) rfl ?_
  rw [show (upX (upX (upS S k (some a)) 6 2 (nI (fu + m * 2 ^ (4 * k)))) 6 3 (nI (sp + 1 * 2 ^ (4 * k)))).1 6 1 = nI k from (upX_n (by omega)).trans ((upX_n (by omega)).trans h1)]
  refine G_iconst (pc := 63) (v := nI 1) dX0_take_63 (by decide) ?_
  refine N_iadd (pc := 64) dX0_take_64 ?_
  refine S_putI (pc := 65) dX0_take_65 fX0_17 (by decide) rfl (by first | rfl | assumption) rfl ?_
  refine S_vret (pc := 68) dX0_take_68 rfl ?_
  exact h
end C7
