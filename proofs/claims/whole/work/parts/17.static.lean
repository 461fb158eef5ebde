/-! the memory behind the constructors: cells stand, only ints, rows of ints and the row 'shown' of Fit change -/
/-- int fields by cell and place; rows of ints by cell; what Fit.shown holds -/
abbrev ST : Type := (Nat → Nat → Int32) × (Nat → Nat → Int32) × (Nat → Option Nat)
/-- what a cell is: below 10 an object of that class; 10 + t a row of ints of kind t and its length; 20 + t a row of references -/
def kd (k : Nat) : Nat × Nat :=
  if k < 22 then ([(8, 0), (3, 0), (11, 60), (3, 0), (11, 35), (23, 12), (0, 0), (23, 4), (10, 40), (10, 4803), (10, 4803), (11, 4803), (1, 0), (12, 65536), (10, 1604), (10, 1604), (10, 4812), (10, 4812), (10, 4803), (10, 4803), (10, 4803), (24, 64)] : List (Nat × Nat)).getD k (99, 0)
  else if k < 150 then (if k % 2 = 0 then (2, 0) else (10, 3))
  else if k < 153 then ([(5, 0), (25, 64), (10, 64)] : List (Nat × Nat)).getD (k - 150) (99, 0)
  else if k < 281 then (if k % 2 = 1 then (3, 0) else (11, 35))
  else if k < 289 then ([(10, 512), (24, 4), (6, 0), (2, 0), (10, 3), (3, 0), (11, 60), (26, 4)] : List (Nat × Nat)).getD (k - 281) (99, 0)
  else if k < 373 then ([(7, 0), (3, 0), (11, 16), (10, 40), (3, 0), (11, 35), (11, 289)] : List (Nat × Nat)).getD ((k - 289) % 7) (99, 0)
  else if k < 381 then (if k % 2 = 1 then (2, 0) else (10, 3))
  else if k < 389 then (if k % 2 = 1 then (4, 0) else (10, 20))
  else if k < 413 then ([(9, 0), (10, 192), (10, 12), (10, 12), (10, 432), (10, 12), (10, 12), (10, 60), (10, 36), (10, 4), (10, 4803), (10, 4803), (10, 4803), (10, 4803), (10, 65536), (10, 192), (10, 2304), (10, 64), (10, 36), (10, 12), (10, 3), (10, 4), (10, 4), (10, 80)] : List (Nat × Nat)).getD (k - 389) (99, 0)
  else (99, 0)
/-- where a field of references leads, counted from its object; 0: it's an int -/
def off (ci j : Nat) : Nat := (([[1, 0, 0, 0, 2, 0, 3, 4, 5, 0, 6, 14, 0, 0, 0, 15, 0], [1, 2, 3, 4, 5, 0, 6, 7, 0], [1, 0], [1, 0], [1, 0, 0], [1, 2, 0], [1, 3, 0], [1, 3, 4, 0, 6], [1, 3, 5, 0, 6, 0, 0, 150, 281, 0, 282, 0, 283, 288],
  [0, 1, 2, 3, 4, 5, 6, 0, 7, 0, 0, 8, 0, 0, 9, 0, 10, 11, 0, 12, 13, 14, 0, 15, 16, 17, 18, 0, 0, 19, 20, 21, 22, 23]] : List (List Nat)).getD ci []).getD j 0
def rfA (S : ST) (k i : Nat) : Option Nat := match k with
  | 7 => S.2.2 i
  | 5 => some (289 + 7 * i)
  | 21 => some (22 + 2 * i)
  | 151 => some (153 + 2 * i)
  | 282 => some (373 + 2 * i)
  | _ => some (381 + 2 * i)
def mkC (S : ST) (k : Nat) : Cel :=
  if (kd k).1 < 10 then .inr (.inr ((kd k).1, fun j => if off (kd k).1 j = 0 then aI (S.1 k j) else aR (k + off (kd k).1 j)))
  else if (kd k).1 < 20 then .inl ((kd k).1 - 10, (kd k).2, S.2.1 k)
  else .inr (.inl ((kd k).1 - 20, (kd k).2, rfA S k))
/-- how many slots all cells have -/
abbrev gSLn : Nat := 203887
def mk (S : ST) : HM := (mkC S, 413, gSLn, 413, gSLn)
theorem kd_out {k : Nat} (h : 413 ≤ k) : kd k = (99, 0) := by
  unfold kd
  rw [if_neg (by omega), if_neg (by omega), if_neg (by omega), if_neg (by omega), if_neg (by omega), if_neg (by omega), if_neg (by omega), if_neg (by omega), if_neg (by omega)]
theorem kd_lt {k c n : Nat} (h : kd k = (c, n)) (hc : Nat.blt c 99 = true) : k < 413 := by
  rcases Nat.lt_or_ge k 413 with q | q
  · exact q
  · rw [kd_out q] at h
    cases h
    cases hc
theorem mkC_obj {S : ST} {k c n : Nat} (h : kd k = (c, n)) (hc : Nat.blt c 10 = true) : mkC S k = .inr (.inr (c, fun j => if off c j = 0 then aI (S.1 k j) else aR (k + off c j))) := by
  have h1 : c < 10 := Nat.le_of_ble_eq_true hc
  unfold mkC
  rw [h]
  simp only [h1, if_true]
theorem mkC_row {S : ST} {k t n : Nat} (h : kd k = (10 + t, n)) (ht : Nat.blt t 10 = true) : mkC S k = .inl (t, n, S.2.1 k) := by
  have h1 : t < 10 := Nat.le_of_ble_eq_true ht
  unfold mkC
  rw [h]
  have h2 : ¬ (10 + t < 10) := by omega
  have h3 : 10 + t < 20 := by omega
  have h4 : 10 + t - 10 = t := by omega
  simp only [h2, h3, h4, if_true, if_false]
theorem mkC_ref {S : ST} {k t n : Nat} (h : kd k = (20 + t, n)) : mkC S k = .inr (.inl (t, n, rfA S k)) := by
  unfold mkC
  rw [h]
  have h2 : ¬ (20 + t < 10) := by omega
  have h3 : ¬ (20 + t < 20) := by omega
  have h4 : 20 + t - 20 = t := by omega
  simp only [h2, h3, h4, if_false]
def upX (S : ST) (a j : Nat) (v : Int32) : ST := (fun b i => if b = a ∧ i = j then v else S.1 b i, S.2)
def upI (S : ST) (a j : Nat) (v : Int32) : ST := (S.1, fun b i => if b = a ∧ i = j then v else S.2.1 b i, S.2.2)
def upS (S : ST) (j : Nat) (v : Option Nat) : ST := (S.1, S.2.1, fun i => if i = j then v else S.2.2 i)
theorem rfA_upX (S : ST) (a j : Nat) (v : Int32) : rfA (upX S a j v) = rfA S := rfl
theorem mk_upX {S : ST} {a j c n : Nat} {v : Int32} (h : kd a = (c, n)) (hc : Nat.blt c 10 = true) (ho : off c j = 0) : gUp (mk S) a (.inr (.inr (c, fun i => if i = j then aI v else (if off c i = 0 then aI (S.1 a i) else aR (a + off c i))))) = mk (upX S a j v) := by
  unfold gUp mk
  refine Prod.ext ?_ rfl
  funext k
  dsimp only
  by_cases hk : k = a
  · subst hk
    rw [if_pos rfl, mkC_obj h hc]
    congr 3
    funext i
    by_cases hi : i = j
    · subst hi
      rw [if_pos rfl, if_pos ho]
      simp [upX]
    · rw [if_neg hi]
      simp [upX, hi]
  · rw [if_neg hk]
    unfold mkC
    simp only [rfA_upX]
    simp only [upX, hk, false_and, if_false]
theorem mk_upI {S : ST} {a t n j : Nat} {v : Int32} (h : kd a = (10 + t, n)) (ht : Nat.blt t 10 = true) : gUp (mk S) a (.inl (t, n, upd (S.2.1 a) j v)) = mk (upI S a j v) := by
  unfold gUp mk
  refine Prod.ext ?_ rfl
  funext k
  dsimp only
  by_cases hk : k = a
  · subst hk
    rw [if_pos rfl, mkC_row h ht]
    congr 3
    funext i
    unfold upd upI
    simp
  · rw [if_neg hk]
    unfold mkC
    have hr : rfA (upI S a j v) = rfA S := rfl
    rw [hr]
    simp only [upI, hk, false_and, if_false]
theorem mk_upS {S : ST} {j : Nat} {v : Nat} : gUp (mk S) 7 (.inr (.inl (3, 4, va_up (S.2.2) j (some v)))) = mk (upS S j (some v)) := by
  unfold gUp mk
  refine Prod.ext ?_ rfl
  funext k
  dsimp only
  by_cases hk : k = 7
  · subst hk
    rw [if_pos rfl]
    rfl
  · rw [if_neg hk]
    unfold mkC
    have hr : rfA (upS S j (some v)) k = rfA S k := by
      unfold rfA
      split <;> first | (exact absurd rfl hk) | rfl
    rw [hr]
    rfl
section GS
variable {sc : SC} {y z : MI} {pc : Nat} {L : List (Option AV)} {st : List AV} {S : ST} {Q : Option AV → HM → Prop}
theorem S_getI {i a ci k n : Nat} (hd : decode y.2.1 pc = .ok (.getfield i, 3)) (hf : flB y.1.cls i ci k) (ho : off ci k = 0) (hk : kd a = (ci, n)) (hc : Nat.blt ci 10 = true) (kk : G sc y (pc + 3) L (aI (S.1 a k) :: st) (mk S) Q) : G sc y pc L (aR a :: st) (mk S) Q := by
  refine G_getfield hd hf (kd_lt hk (Nat.ble_eq_true_of_le (Nat.le_trans (Nat.le_of_ble_eq_true hc) (by decide)))) (mkC_obj hk hc) ?_
  rw [if_pos ho]
  exact kk
theorem S_getR {i a ci k n d b : Nat} (hd : decode y.2.1 pc = .ok (.getfield i, 3)) (hf : flB y.1.cls i ci k) (ho : off ci k = d) (hd0 : Nat.blt 0 d = true) (hk : kd a = (ci, n)) (hc : Nat.blt ci 10 = true) (hb : a + d = b) (kk : G sc y (pc + 3) L (aR b :: st) (mk S) Q) : G sc y pc L (aR a :: st) (mk S) Q := by
  have h0 : 0 < d := Nat.le_of_ble_eq_true hd0
  refine G_getfield hd hf (kd_lt hk (Nat.ble_eq_true_of_le (Nat.le_trans (Nat.le_of_ble_eq_true hc) (by decide)))) (mkC_obj hk hc) ?_
  rw [ho, if_neg (by omega), hb]
  exact kk
theorem S_putI {i a ci k n : Nat} {v : Int32} (hd : decode y.2.1 pc = .ok (.putfield i, 3)) (hf : flB y.1.cls i ci k) (hp : fpB ci k .int = true) (ho : off ci k = 0) (hk : kd a = (ci, n)) (hc : Nat.blt ci 10 = true) (kk : G sc y (pc + 3) L st (mk (upX S a k v)) Q) : G sc y pc L (aI v :: aR a :: st) (mk S) Q := by
  refine G_putfield hd hf hp (fun f => ⟨rfl, rfl⟩) (kd_lt hk (Nat.ble_eq_true_of_le (Nat.le_trans (Nat.le_of_ble_eq_true hc) (by decide)))) (mkC_obj hk hc) ?_
  rw [mk_upX hk hc ho]
  exact kk
theorem S_putZ {i a ci k n : Nat} {v : Int32} (hd : decode y.2.1 pc = .ok (.putfield i, 3)) (hf : flB y.1.cls i ci k) (hp : fpB ci k .boolean = true) (hv : narrow .boolean (.int v) = .int v ∧ fits .boolean (.int v) = true) (ho : off ci k = 0) (hk : kd a = (ci, n)) (hc : Nat.blt ci 10 = true) (kk : G sc y (pc + 3) L st (mk (upX S a k v)) Q) : G sc y pc L (aI v :: aR a :: st) (mk S) Q := by
  refine G_putfield hd hf hp (fun f => hv) (kd_lt hk (Nat.ble_eq_true_of_le (Nat.le_trans (Nat.le_of_ble_eq_true hc) (by decide)))) (mkC_obj hk hc) ?_
  rw [mk_upX hk hc ho]
  exact kk
theorem S_iald {a n : Nat} {i : Int32} (hd : decode y.2.1 pc = .ok (.iaload, 1)) (hk : kd a = (10, n)) (hi : vp_in i n) (kk : G sc y (pc + 1) L (aI (S.2.1 a i.toNatClampNeg) :: st) (mk S) Q) : G sc y pc L (aI i :: aR a :: st) (mk S) Q :=
  G_iaload hd (kd_lt hk rfl) (mkC_row (t := 0) hk rfl) hi kk
theorem S_bald {a n : Nat} {i : Int32} (hd : decode y.2.1 pc = .ok (.baload, 1)) (hk : kd a = (11, n)) (hi : vp_in i n) (kk : G sc y (pc + 1) L (aI (S.2.1 a i.toNatClampNeg) :: st) (mk S) Q) : G sc y pc L (aI i :: aR a :: st) (mk S) Q :=
  G_baload hd (kd_lt hk rfl) (mkC_row (t := 1) hk rfl) hi kk
theorem S_sald {a n : Nat} {i : Int32} (hd : decode y.2.1 pc = .ok (.saload, 1)) (hk : kd a = (12, n)) (hi : vp_in i n) (kk : G sc y (pc + 1) L (aI (S.2.1 a i.toNatClampNeg) :: st) (mk S) Q) : G sc y pc L (aI i :: aR a :: st) (mk S) Q :=
  G_saload hd (kd_lt hk rfl) (mkC_row (t := 2) hk rfl) hi kk
theorem S_iast {a n : Nat} {i x : Int32} (hd : decode y.2.1 pc = .ok (.iastore, 1)) (hk : kd a = (10, n)) (hi : vp_in i n) (kk : G sc y (pc + 1) L st (mk (upI S a i.toNatClampNeg x)) Q) : G sc y pc L (aI x :: aI i :: aR a :: st) (mk S) Q := by
  refine G_iastore hd (kd_lt hk rfl) (mkC_row (t := 0) hk rfl) hi ?_
  rw [mk_upI (t := 0) hk rfl]
  exact kk
theorem S_bast {a n : Nat} {i x : Int32} (hd : decode y.2.1 pc = .ok (.bastore, 1)) (hk : kd a = (11, n)) (hi : vp_in i n) (kk : G sc y (pc + 1) L st (mk (upI S a i.toNatClampNeg x.toInt8.toInt32)) Q) : G sc y pc L (aI x :: aI i :: aR a :: st) (mk S) Q := by
  refine G_bastore hd (kd_lt hk rfl) (mkC_row (t := 1) hk rfl) hi ?_
  rw [mk_upI (t := 1) hk rfl]
  exact kk
theorem S_sast {a n : Nat} {i x : Int32} (hd : decode y.2.1 pc = .ok (.sastore, 1)) (hk : kd a = (12, n)) (hi : vp_in i n) (kk : G sc y (pc + 1) L st (mk (upI S a i.toNatClampNeg x.toInt16.toInt32)) Q) : G sc y pc L (aI x :: aI i :: aR a :: st) (mk S) Q := by
  refine G_sastore hd (kd_lt hk rfl) (mkC_row (t := 2) hk rfl) hi ?_
  rw [mk_upI (t := 2) hk rfl]
  exact kk
theorem S_alen {a t n : Nat} {v : Int32} (hd : decode y.2.1 pc = .ok (.arraylength, 1)) (hk : kd a = (10 + t, n)) (ht : Nat.blt t 3 = true) (hv : Int32.ofNat n = v) (kk : G sc y (pc + 1) L (aI v :: st) (mk S) Q) : G sc y pc L (aR a :: st) (mk S) Q := by
  have h1 : t < 3 := Nat.le_of_ble_eq_true ht
  exact G_alen hd (kd_lt hk (Nat.ble_eq_true_of_le (by omega))) h1 (mkC_row (t := t) hk (Nat.ble_eq_true_of_le (by omega))) hv kk
theorem S_aald {a t n b : Nat} {i : Int32} (hd : decode y.2.1 pc = .ok (.aaload, 1)) (hk : kd a = (20 + t, n)) (ht : 3 ≤ t ∧ t < 7) (hi : vp_in i n) (hb : rfA S a i.toNatClampNeg = some b) (kk : G sc y (pc + 1) L (aR b :: st) (mk S) Q) : G sc y pc L (aI i :: aR a :: st) (mk S) Q :=
  G_aaload hd (kd_lt hk (Nat.ble_eq_true_of_le (by omega))) ht (mkC_ref hk) hi hb kk
/-- Fit.shown takes a Thing -/
theorem S_aast {b n : Nat} {i : Int32} (hd : decode y.2.1 pc = .ok (.aastore, 1)) (hb : kd b = (7, n)) (hi : vp_in i 4) (kk : G sc y (pc + 1) L st (mk (upS S i.toNatClampNeg (some b))) Q) : G sc y pc L (aR b :: aI i :: aR 7 :: st) (mk S) Q := by
  refine G_aastore (t := 3) (n := 4) (g := S.2.2) hd (show 7 < 413 by decide) rfl (kd_lt hb rfl) (mkC_obj hb rfl) (q := (RX8, TX8, 5)) rfl (fun f => rfl) hi ?_
  rw [mk_upS]
  exact kk
/-- a static contract: what z answers, and the state behind it -/
abbrev gJ (sc : SC) (y : MI) (pc : Nat) (L : List (Option AV)) (st : List AV) (Q : Option AV → HM → Prop) : Option AV → HM → Prop := fun r M' => ∃ S' : ST, M' = mk S' ∧ G sc y (pc + 3) L (r.toList ++ st) (mk S') Q
theorem CT_mono {av : List AV} {M : HM} {Q1 Q2 : Option AV → HM → Prop} (h : CT sc z av M Q1) (hi : ∀ r M', Q1 r M' → Q2 r M') : CT sc z av M Q2 := by
  intro f l
  have h1 := h f l
  intro p e ha hc hk s m args below hf h2 h3 h4
  obtain ⟨k, o, g1, g2, g3, ⟨⟨⟨r, M', e1, e2, e3⟩, hF⟩, hL⟩⟩ := h1 p e ha hc hk s m args below hf h2 h3 h4
  exact ⟨k, o, g1, g2, g3, ⟨⟨r, M', e1, hi _ _ e2, e3⟩, hF⟩, hL⟩
theorem S_callS {i : Nat} {av : List AV} (hd : decode y.2.1 pc = .ok (.invokestatic i, 3)) (hz : mS z av.length) (hlk : lkB y z i) (hcat : Nat.ble (gCat st) 8 = true) (hM : CT sc z av (mk S) (gJ sc y pc L st Q)) : G sc y pc L (av.reverse ++ st) (mk S) Q :=
  G_callS (n' := 413) (s' := gSLn) hd hz hlk (Nat.le_of_ble_eq_true hcat) ⟨Nat.le_refl _, Nat.le_refl _⟩ ⟨Nat.le_refl _, Nat.le_refl _⟩ (CT_mono hM (fun r M' h => by obtain ⟨S', rfl, h2⟩ := h; exact ⟨rfl, rfl, h2⟩))
theorem S_callV {i a ci n : Nat} {av : List AV} (hd : decode y.2.1 pc = .ok (.invokevirtual i, 3)) (hz : mV z av.length) (hlk : lkB y z i) (hcat : Nat.ble (gCat st) 8 = true) (hk : kd a = (ci, n)) (hc : Nat.blt ci 10 = true) (hci : (vwCl[ci]?).map (fun q => q.1) = some z.1.cls) (hM : CT sc z (aR a :: av) (mk S) (gJ sc y pc L st Q)) : G sc y pc L (av.reverse ++ aR a :: st) (mk S) Q :=
  G_callV (n' := 413) (s' := gSLn) hd hz hlk (Nat.le_of_ble_eq_true hcat) (kd_lt hk (Nat.ble_eq_true_of_le (Nat.le_trans (Nat.le_of_ble_eq_true hc) (by decide)))) (mkC_obj hk hc) hci ⟨Nat.le_refl _, Nat.le_refl _⟩ ⟨Nat.le_refl _, Nat.le_refl _⟩ (CT_mono hM (fun r M' h => by obtain ⟨S', rfl, h2⟩ := h; exact ⟨rfl, rfl, h2⟩))
theorem S_iret {x : Int32} (hd : decode y.2.1 pc = .ok (.ireturn, 1)) (hr : y.2.2.2.1 = some .int) (hq : Q (some (aI x)) (mk S)) : G sc y pc L [aI x] (mk S) Q := G_iret hd hr (Nat.le_refl _) (Nat.le_refl _) hq
theorem S_zret {x : Int32} (hd : decode y.2.1 pc = .ok (.ireturn, 1)) (hr : y.2.2.2.1 = some .boolean) (hn : narrow .boolean (.int x) = .int x) (hq : Q (some (aI x)) (mk S)) : G sc y pc L [aI x] (mk S) Q := G_zret hd hr hn (Nat.le_refl _) (Nat.le_refl _) hq
theorem S_lret {x : Int64} (hd : decode y.2.1 pc = .ok (.lreturn, 1)) (hr : y.2.2.2.1 = some .long) (hq : Q (some (aL x)) (mk S)) : G sc y pc L [aL x] (mk S) Q := G_lret hd hr (Nat.le_refl _) (Nat.le_refl _) hq
theorem S_vret (hd : decode y.2.1 pc = .ok (.return_, 1)) (hr : y.2.2.2.1 = none) (hq : Q none (mk S)) : G sc y pc L [] (mk S) Q := G_vret hd hr (Nat.le_refl _) (Nat.le_refl _) hq
theorem S_aret {x : Nat} {n : String} (hd : decode y.2.1 pc = .ok (.areturn, 1)) (hr : y.2.2.2.1 = some (.object n)) (hq : Q (some (aR x)) (mk S)) : G sc y pc L [aR x] (mk S) Q := G_aret hd hr (Nat.le_refl _) (Nat.le_refl _) hq
theorem S_of {av : List AV} (hp : plainName z.1.cls = true) (hL : Nat.ble (gSl av).length z.2.2.1 = true) (k : G sc z 0 (gEnt z.2.2.1 av) [] (mk S) Q) : CT sc z av (mk S) Q := CT_of hp (Nat.le_of_ble_eq_true hL) (Nat.le_refl _) (Nat.le_refl _) k
end GS
