/-! the class: Tally -/
theorem RwK_t : ∀ k, k < 64 → RwK (153 + 2 * k) 35 := by unfold RwK; decide
/-- the unlike ends among the first p -/
def disE (f : Nat → List Int32) : Nat → List (List Int32)
  | 0 => []
  | p + 1 => if f p ∈ disE f p then disE f p else disE f p ++ [f p]
/-- how many of the first q are x -/
def cnE (f : Nat → List Int32) (x : List Int32) : Nat → Nat
  | 0 => 0
  | q + 1 => cnE f x q + (if x = f q then 1 else 0)
theorem cnE_al {f : Nat → List Int32} {p : Nat} : ∀ q, cnE f (f p) q = alE f p q
  | 0 => rfl
  | q + 1 => by unfold cnE alE; rw [cnE_al q]
theorem cnE_le {f : Nat → List Int32} {x : List Int32} : ∀ q, cnE f x q ≤ q
  | 0 => Nat.le_refl _
  | q + 1 => by have := cnE_le (f := f) (x := x) q; unfold cnE; split <;> omega
theorem dis_mem {f : Nat → List Int32} {x : List Int32} : ∀ p, x ∈ disE f p ↔ ∃ q, q < p ∧ f q = x
  | 0 => ⟨fun h => (by cases h), fun ⟨q, h, _⟩ => by omega⟩
  | p + 1 => by
    have ih := dis_mem (f := f) (x := x) p
    unfold disE
    split
    · rename_i h
      rw [ih]
      constructor
      · exact fun ⟨q, h1, h2⟩ => ⟨q, by omega, h2⟩
      · rintro ⟨q, h1, h2⟩
        by_cases e : q = p
        · subst e
          rw [h2] at h
          exact ih.mp h
        · exact ⟨q, by omega, h2⟩
    · rw [List.mem_append, List.mem_singleton, ih]
      constructor
      · rintro (⟨q, h1, h2⟩ | h)
        · exact ⟨q, by omega, h2⟩
        · exact ⟨p, by omega, h.symm⟩
      · rintro ⟨q, h1, h2⟩
        by_cases e : q = p
        · subst e; exact Or.inr h2.symm
        · exact Or.inl ⟨q, by omega, h2⟩
theorem cnE_0 {f : Nat → List Int32} {x : List Int32} : ∀ p, cnE f x p = 0 ↔ ¬ x ∈ disE f p
  | 0 => ⟨fun _ h => (by cases h), fun _ => rfl⟩
  | p + 1 => by
    have ih := cnE_0 (f := f) (x := x) p
    rw [dis_mem] at ih ⊢
    unfold cnE
    constructor
    · rintro h ⟨q, h1, h2⟩
      have hx : cnE f x p = 0 := by omega
      by_cases e : q = p
      · subst e
        rw [if_pos h2.symm] at h
        omega
      · exact ih.mp hx ⟨q, by omega, h2⟩
    · intro h
      rw [if_neg (fun e => h ⟨p, by omega, e.symm⟩), ih.mpr (fun ⟨q, h1, h2⟩ => h ⟨q, by omega, h2⟩)]
theorem dis_un {f : Nat → List Int32} : ∀ p, (disE f p).length = unE f p
  | 0 => rfl
  | p + 1 => by
    have ih := dis_un (f := f) p
    have h := cnE_0 (f := f) (x := f p) p
    rw [cnE_al] at h
    unfold disE unE
    by_cases e : f p ∈ disE f p
    · rw [if_pos e, if_neg (fun z => h.mp z e), ih]
      rfl
    · rw [if_neg e, if_pos (h.mpr e), List.length_append, ih]
      rfl
/-- no two are alike -/
def IJ (D : List (List Int32)) : Prop := ∀ i j, i < D.length → j < D.length → D.getD i [] = D.getD j [] → i = j
theorem gdI_la {D : List (List Int32)} {x : List Int32} : (D ++ [x]).getD D.length [] = x := by simp
theorem gdI_lb {D : List (List Int32)} {x : List Int32} {i : Nat} (h : i < D.length) : (D ++ [x]).getD i [] = D.getD i [] := by
  rw [List.getD_eq_getElem?_getD, List.getD_eq_getElem?_getD, List.getElem?_append_left h]
theorem gdI_mem {D : List (List Int32)} {i : Nat} (h : i < D.length) : D.getD i [] ∈ D := by
  rw [List.getD_eq_getElem?_getD, List.getElem?_eq_getElem h]
  exact List.getElem_mem _
theorem dis_ij {f : Nat → List Int32} : ∀ p, IJ (disE f p)
  | 0 => fun i j h => by simp [disE] at h
  | p + 1 => by
    have ih := dis_ij (f := f) p
    unfold disE
    split
    · exact ih
    · rename_i h
      intro i j hi hj e
      rw [List.length_append] at hi hj
      have hi : i < (disE f p).length + 1 := hi
      have hj : j < (disE f p).length + 1 := hj
      by_cases e1 : i = (disE f p).length
      · by_cases e2 : j = (disE f p).length
        · omega
        · rw [e1, gdI_la, gdI_lb (by omega)] at e
          exact absurd (by rw [e]; exact gdI_mem (by omega)) h
      · by_cases e2 : j = (disE f p).length
        · rw [e2, gdI_la, gdI_lb (by omega)] at e
          exact absurd (by rw [← e]; exact gdI_mem (by omega)) h
        · rw [gdI_lb (by omega), gdI_lb (by omega)] at e
          exact ih i j (by omega) (by omega) e
theorem dis_le {f : Nat → List Int32} : ∀ p, (disE f p).length ≤ p
  | 0 => Nat.le_refl _
  | p + 1 => by
    have := dis_le (f := f) p
    unfold disE
    split
    · omega
    · rw [List.length_append]
      show _ + 1 ≤ _
      omega
def mxG (m : Nat → Nat) : Nat → Nat
  | 0 => 0
  | k + 1 => max (mxG m k) (m k)
theorem mxG_le {m : Nat → Nat} {B : Nat} : ∀ K, (∀ k, k < K → m k ≤ B) → mxG m K ≤ B
  | 0, _ => Nat.zero_le _
  | K + 1, h => by
    have h1 := mxG_le (m := m) K (fun k hk => h k (by omega))
    have h2 := h K (by omega)
    unfold mxG
    omega
theorem le_mxG {m : Nat → Nat} : ∀ K k, k < K → m k ≤ mxG m K
  | 0, k, h => by omega
  | K + 1, k, h => by
    unfold mxG
    by_cases e : k = K
    · subst e; omega
    · have := le_mxG (m := m) K k (by omega)
      omega
theorem mxG_cg {m m' : Nat → Nat} : ∀ K, (∀ k, k < K → m k = m' k) → mxG m K = mxG m' K
  | 0, _ => rfl
  | K + 1, h => by unfold mxG; rw [mxG_cg K (fun k hk => h k (by omega)), h K (by omega)]
theorem grE_up {f : Nat → List Int32} {n B : Nat} : ∀ p, (∀ q, q < p → alE f q n ≤ B) → grE f n p ≤ B
  | 0, _ => Nat.zero_le _
  | p + 1, h => by
    have h1 := grE_up (f := f) (n := n) p (fun q hq => h q (by omega))
    have h2 := h p (by omega)
    unfold grE
    split <;> omega
theorem le_grE {f : Nat → List Int32} {n : Nat} : ∀ p q, q < p → alE f q n ≤ grE f n p
  | 0, q, h => by omega
  | p + 1, q, h => by
    unfold grE
    by_cases e : q = p
    · subst e; split <;> omega
    · have := le_grE (f := f) (n := n) p q (by omega)
      split <;> omega
theorem mx_gr {f : Nat → List Int32} {n : Nat} : mxG (fun k => cnE f ((disE f n).getD k []) n) (disE f n).length = grE f n n := by
  apply Nat.le_antisymm
  · refine mxG_le _ (fun k hk => ?_)
    obtain ⟨q, h1, h2⟩ := (dis_mem n).mp (gdI_mem hk)
    show cnE f ((disE f n).getD k []) n ≤ _
    rw [← h2, cnE_al]
    exact le_grE n q h1
  · refine grE_up n (fun q hq => ?_)
    obtain ⟨k, h1, h2⟩ := List.mem_iff_getElem.mp ((dis_mem n).mpr ⟨q, hq, rfl⟩)
    have e : (disE f n).getD k [] = f q := by
      rw [List.getD_eq_getElem?_getD, List.getElem?_eq_getElem h1]
      exact h2
    have := le_mxG (m := fun k => cnE f ((disE f n).getD k []) n) _ k h1
    simp only [e, cnE_al] at this
    exact this
def ixL (x : List Int32) : List (List Int32) → Nat
  | [] => 0
  | y :: r => if y = x then 0 else ixL x r + 1
theorem ixL_le (x : List Int32) : ∀ l, ixL x l ≤ l.length
  | [] => Nat.le_refl _
  | y :: r => by
    have := ixL_le x r
    unfold ixL
    split
    · omega
    · simp; omega
theorem ixL_in {x : List Int32} : ∀ l, x ∈ l → ixL x l < l.length ∧ l.getD (ixL x l) [] = x
  | [], h => by cases h
  | y :: r, h => by
    unfold ixL
    split
    · rename_i e
      exact ⟨by simp, by simpa using e⟩
    · rename_i e
      rcases List.mem_cons.mp h with z | z
      · exact absurd z.symm e
      · have := ixL_in r z
        exact ⟨by simp; omega, by rw [List.getD_cons_succ]; exact this.2⟩
theorem ixL_out {x : List Int32} : ∀ l, ¬ x ∈ l → ixL x l = l.length
  | [], _ => rfl
  | y :: r, h => by
    unfold ixL
    rw [if_neg (fun e => h (by rw [e]; exact List.mem_cons_self)), ixL_out r (fun z => h (List.mem_cons_of_mem _ z))]
    rfl
def TaIs (S : ST) (D : List (List Int32)) (m : Nat → Nat) : Prop := S.1 150 2 = nI D.length ∧ ∀ k, k < D.length → RwIs S (153 + 2 * k) (D.getD k []) ∧ (D.getD k []).length ≤ 35 ∧ S.2.1 152 k = nI (m k)
abbrev taX (a j : Nat) : Prop := (a = 150 ∧ j = 2) ∨ (153 ≤ a ∧ a ≤ 280)
abbrev taA (a : Nat) : Prop := 152 ≤ a ∧ a ≤ 280
theorem NrIs.ta {S S' : ST} {N : List (List Nat)} (h : NrIs S N) (f : Fr taX taA S S') : NrIs S' N := ⟨(f.1 6 16 (by omega)).trans h.1, h.2.1, fun i hi => (h.2.2 i hi).fr f (by have := h.2.1; omega) (by have := h.2.1; omega)⟩
section C18
variable {sc : SC} {S : ST} {Q : Option AV → HM → Prop}
set_option maxRecDepth 100000 in
set_option maxHeartbeats 4000000 in
theorem likeL_lp {D : List (List Int32)} {m : Nat → Nat} {x : List Int32} (hD : TaIs S D m) (hDl : D.length < 64) (hx : RwIs S (153 + 2 * D.length) x) (hxl : x.length ≤ 35) :
    ∀ (r : List (List Int32)) (i : Nat), i ≤ D.length → D.drop i = r → Q (some (aI (nI (i + ixL x r)))) (mk S) →
      G sc mX6_likeLatest 2 [some (aR 150), some (aI (nI i))] [] (mk S) Q := by
  intro r
  induction r with
  | nil =>
    intro i hi hd h
    have hd := List.drop_eq_nil_iff.mp hd
    have e : i = D.length := by omega
    subst e
    refine G_iload_n (pc := 2) dX6_likeLatest_2 rfl rfl ?_
    refine G_aload_n (pc := 3) dX6_likeLatest_3 rfl rfl ?_
    refine S_getI (pc := 4) dX6_likeLatest_4 fX6_23 rfl (by first | rfl | assumption) rfl ?_
    rw [hD.1]
    refine N_icmp_ge (pc := 7) (tgt := 39) dX6_likeLatest_7 (by decide) (by omega) (fun c7 => ?_) (fun c7 => absurd c7 (by omega))
    refine G_aload_n (pc := 39) dX6_likeLatest_39 rfl rfl ?_
    refine S_getI (pc := 40) dX6_likeLatest_40 fX6_23 rfl (by first | rfl | assumption) rfl ?_
    rw [hD.1]
    refine S_iret (pc := 43) dX6_likeLatest_43 rfl ?_
    exact h
  | cons y r ih =>
    intro i hi hd h
    have hil : i < D.length := by
      rcases Nat.lt_or_ge i D.length with z | z
      · exact z
      · rw [List.drop_eq_nil_of_le z] at hd; cases hd
    have hd2 := hd
    rw [List.drop_eq_getElem_cons hil] at hd2
    injection hd2 with hd3 hd4
    have hy : D.getD i [] = y := by rw [List.getD_eq_getElem?_getD, List.getElem?_eq_getElem hil]; exact hd3
    obtain ⟨r1, r2, r3⟩ := hD.2 i hil
    rw [hy] at r1 r2
    obtain ⟨q1, q2, q3⟩ := RwK_t i (by omega)
    have e0 : ixL x (y :: r) = if y = x then 0 else ixL x r + 1 := rfl
    rw [e0] at h
    refine G_iload_n (pc := 2) dX6_likeLatest_2 rfl rfl ?_
    refine G_aload_n (pc := 3) dX6_likeLatest_3 rfl rfl ?_
    refine S_getI (pc := 4) dX6_likeLatest_4 fX6_23 rfl (by first | rfl | assumption) rfl ?_
    rw [hD.1]
    refine N_icmp_ge (pc := 7) (tgt := 39) dX6_likeLatest_7 (by decide) (by omega) (fun c7 => absurd c7 (by omega)) (fun c7 => ?_)
    refine G_aload_n (pc := 10) dX6_likeLatest_10 rfl rfl ?_
    refine S_getR (pc := 11) (b := 151) dX6_likeLatest_11 fX6_13 rfl rfl (by first | rfl | assumption) rfl rfl ?_
    refine G_iload_n (pc := 14) dX6_likeLatest_14 rfl rfl ?_
    refine N_aald (pc := 15) (t := 5) (n := 64) (b := 153 + 2 * i) dX6_likeLatest_15 (by first | rfl | assumption) (by first | rfl | assumption) (by decide) (by omega) rfl ?_
    refine G_aload_n (pc := 16) dX6_likeLatest_16 rfl rfl ?_
    refine S_getR (pc := 17) (b := 151) dX6_likeLatest_17 fX6_13 rfl rfl (by first | rfl | assumption) rfl rfl ?_
    refine G_aload_n (pc := 20) dX6_likeLatest_20 rfl rfl ?_
    refine S_getI (pc := 21) dX6_likeLatest_21 fX6_23 rfl (by first | rfl | assumption) rfl ?_
    rw [hD.1]
    refine N_aald (pc := 24) (t := 5) (n := 64) (b := 153 + 2 * D.length) dX6_likeLatest_24 (by first | rfl | assumption) (by first | rfl | assumption) (by decide) (by omega) rfl ?_
    refine S_callV (av := [_]) (pc := 25) (z := mX4_isLike) (ci := 3) dX6_likeLatest_25 zX4_isLike lX6_likeLatest_47 rfl (by first | rfl | assumption) rfl rfl (sX4_isLike (RwK_t i (by omega)) (RwK_t D.length hDl) r2 hxl r1 hx ⟨_, rfl, ?_⟩)
    refine B_if_eq (pc := 28) (tgt := 33) dX6_likeLatest_28 (by decide) (fun c28 => ?_) (fun c28 => ?_)
    · skip
      rw [decide_eq_false_iff_not] at c28
      rw [if_neg c28] at h
      refine N_iinc (pc := 33) dX6_likeLatest_33 rfl (by decide) rfl ?_
      refine G_goto (pc := 36) (tgt := 2) dX6_likeLatest_36 (by decide) ?_
      exact ih (i + 1) (by omega) hd4 (by rw [show i + 1 + ixL x r = i + (ixL x r + 1) by omega]; exact h)
    · skip
      rw [decide_eq_true_eq] at c28
      rw [if_pos c28] at h
      refine G_iload_n (pc := 31) dX6_likeLatest_31 rfl rfl ?_
      refine S_iret (pc := 32) dX6_likeLatest_32 rfl ?_
      exact h
set_option maxRecDepth 100000 in
set_option maxHeartbeats 4000000 in
theorem sX6_likeLatest {D : List (List Int32)} {m : Nat → Nat} {x : List Int32} (hD : TaIs S D m) (hDl : D.length < 64) (hx : RwIs S (153 + 2 * D.length) x) (hxl : x.length ≤ 35) (h : Q (some (aI (nI (ixL x D)))) (mk S)) : CT sc mX6_likeLatest [aR 150] (mk S) Q := by
  refine S_of (by decide) rfl ?_
  show G sc mX6_likeLatest 0 [some (aR 150), none] [] (mk S) Q
  refine G_iconst (pc := 0) (v := nI 0) dX6_likeLatest_0 (by decide) ?_
  refine G_istore_n (pc := 1) dX6_likeLatest_1 rfl (by decide) rfl ?_
  exact likeL_lp hD hDl hx hxl D 0 (by omega) List.drop_zero (by rw [Nat.zero_add]; exact h)
set_option maxRecDepth 100000 in
set_option maxHeartbeats 4000000 in
theorem great_lp {D : List (List Int32)} {m : Nat → Nat} (hD : TaIs S D m) (hDl : D.length ≤ 64) (hm : ∀ k, k < D.length → m k ≤ 64) (h : Q (some (aI (nI (mxG m D.length)))) (mk S)) :
    ∀ (d i : Nat), i + d = D.length → G sc mX6_greatest 4 [some (aR 150), some (aI (nI (mxG m i))), some (aI (nI i))] [] (mk S) Q := by
  intro d
  induction d with
  | zero =>
    intro i hi
    have e : i = D.length := by omega
    subst e
    refine G_iload_n (pc := 4) dX6_greatest_4 rfl rfl ?_
    refine G_aload_n (pc := 5) dX6_greatest_5 rfl rfl ?_
    refine S_getI (pc := 6) dX6_greatest_6 fX6_23 rfl (by first | rfl | assumption) rfl ?_
    rw [hD.1]
    refine N_icmp_ge (pc := 9) (tgt := 29) dX6_greatest_9 (by decide) (by omega) (fun c9 => ?_) (fun c9 => absurd c9 (by omega))
    refine G_iload_n (pc := 29) dX6_greatest_29 rfl rfl ?_
    refine S_iret (pc := 30) dX6_greatest_30 rfl ?_
    exact h
  | succ d ih =>
    intro i hi
    have hm0 := hm i (by omega)
    have hm1 := mxG_le (m := m) (B := 64) i (fun k hk => hm k (by omega))
    refine G_iload_n (pc := 4) dX6_greatest_4 rfl rfl ?_
    refine G_aload_n (pc := 5) dX6_greatest_5 rfl rfl ?_
    refine S_getI (pc := 6) dX6_greatest_6 fX6_23 rfl (by first | rfl | assumption) rfl ?_
    rw [hD.1]
    refine N_icmp_ge (pc := 9) (tgt := 29) dX6_greatest_9 (by decide) (by omega) (fun c9 => absurd c9 (by omega)) (fun c9 => ?_)
    refine G_iload_n (pc := 12) dX6_greatest_12 rfl rfl ?_
    refine G_aload_n (pc := 13) dX6_greatest_13 rfl rfl ?_
    refine S_getR (pc := 14) (b := 152) dX6_greatest_14 fX6_19 rfl rfl (by first | rfl | assumption) rfl rfl ?_
    refine G_iload_n (pc := 17) dX6_greatest_17 rfl rfl ?_
    refine N_iald (pc := 18) dX6_greatest_18 (by first | rfl | assumption) (by first | rfl | assumption) (by omega) ?_
    rw [(hD.2 i (by omega)).2.2]
    refine S_mmax (pc := 19) dX6_greatest_19 zJ9_max_7cf53 lX6_greatest_51 rfl (by omega) ?_
    refine G_istore_n (pc := 22) dX6_greatest_22 rfl (by decide) rfl ?_
    refine N_iinc (pc := 23) dX6_greatest_23 rfl (by decide) rfl ?_
    refine G_goto (pc := 26) (tgt := 4) dX6_greatest_26 (by decide) ?_
    exact ih (i + 1) (by omega)
set_option maxRecDepth 100000 in
set_option maxHeartbeats 4000000 in
theorem sX6_greatest {D : List (List Int32)} {m : Nat → Nat} (hD : TaIs S D m) (hDl : D.length ≤ 64) (hm : ∀ k, k < D.length → m k ≤ 64) (h : Q (some (aI (nI (mxG m D.length)))) (mk S)) : CT sc mX6_greatest [aR 150] (mk S) Q := by
  refine S_of (by decide) rfl ?_
  show G sc mX6_greatest 0 [some (aR 150), none, none] [] (mk S) Q
  refine G_iconst (pc := 0) (v := nI 0) dX6_greatest_0 (by decide) ?_
  refine G_istore_n (pc := 1) dX6_greatest_1 rfl (by decide) rfl ?_
  refine G_iconst (pc := 2) (v := nI 0) dX6_greatest_2 (by decide) ?_
  refine G_istore_n (pc := 3) dX6_greatest_3 rfl (by decide) rfl ?_
  exact great_lp hD hDl hm h D.length 0 (by omega)
set_option maxRecDepth 100000 in
set_option maxHeartbeats 4000000 in
theorem take_lp {t n : Nat} {b : Nat → Int32} {N : List (List Nat)} {f : Nat → List Int32} (ht : t < 12) (hn : n ≤ 16) (hby : ∀ j, j < n → isBy (b j)) (hNl : N.length ≤ 64) (hok : PsOk N) (hpb : PsB N) (hf : ∀ p, p < N.length → f p = (runP b n (N.getD p [])).getD []) (hfl : ∀ p, p < N.length → (f p).length ≤ 35) :
    ∀ (d p : Nat) (S : ST) (o4 : Option AV), p + d = N.length → NrIs S N → LnIs S (289 + 7 * t) b n → PlIs S (289 + 7 * t) b n → TaIs S (disE f p) (fun k => cnE f ((disE f p).getD k []) p) →
      (∀ S', Fr taX taA S S' → TaIs S' (disE f N.length) (fun k => cnE f ((disE f N.length).getD k []) N.length) → Q none (mk S')) →
      G sc mX6_take 7 [some (aR 150), some (aR 6), some (aR (289 + 7 * t)), some (aI (nI p)), o4] [] (mk S) Q := by
  intro d
  induction d with
  | zero =>
    intro p S o4 hp hN hl hpl hT h
    have e : p = N.length := by omega
    subst e
    refine G_iload_n (pc := 7) dX6_take_7 rfl rfl ?_
    refine G_aload_n (pc := 8) dX6_take_8 rfl rfl ?_
    refine S_getI (pc := 9) dX6_take_9 fX6_30 rfl (by first | rfl | assumption) rfl ?_
    rw [hN.1]
    refine N_icmp_ge (pc := 12) (tgt := 87) dX6_take_12 (by decide) (by omega) (fun c12 => ?_) (fun c12 => absurd c12 (by omega))
    refine S_vret (pc := 87) dX6_take_87 rfl ?_
    exact h S Fr.rf hT
  | succ d ih =>
    intro p S o4 hp hN hl hpl hT h
    have hdl := dis_le (f := f) p
    have hij := dis_ij (f := f) p
    generalize hD : disE f p = D at hT hdl hij
    have hDl : D.length < 64 := by omega
    have hK := RwK_t D.length hDl
    have hPK := PgK_n p (by omega)
    have hPg := hN.2.2 p (by omega)
    have hmem : N.getD p [] ∈ N := by
      rw [List.getD_eq_getElem?_getD, List.getElem?_eq_getElem (show p < N.length by omega)]
      exact List.getElem_mem _
    obtain ⟨q1, q2, q3⟩ := id hK
    obtain ⟨v1, v2⟩ := id hPK
    have hfp := hf p (by omega)
    have hxl := hfl p (by omega)
    -- behind makeOf
    have K : ∀ S1, Fr (rwX (153 + 2 * D.length)) (rwA (153 + 2 * D.length)) S S1 → RwIs S1 (153 + 2 * D.length) (f p) → G sc mX6_take 35 [some (aR 150), some (aR 6), some (aR (289 + 7 * t)), some (aI (nI p)), o4] [] (mk S1) Q := by
      intro S1 w1 w2
      have g1 : Fr taX taA S S1 := w1.mono (fun a j q => Or.inr (by omega)) (fun a q => by constructor <;> omega)
      have hT1 : TaIs S1 D (fun k => cnE f (D.getD k []) p) := ⟨(w1.1 150 2 (by show ¬ (_ ∧ _); omega)).trans hT.1, fun k hk => by
        obtain ⟨r1, r2, r3⟩ := hT.2 k hk
        exact ⟨r1.kept (w1.1 _ _ (by show ¬ (_ ∧ _); omega)) (w1.2.1 _ (by show ¬ _ = _; omega)), r2, (w1.2.1 152 (by show ¬ _ = _; omega) k).trans r3⟩⟩
      have hix := ixL_le (f p) D
      by_cases hin : f p ∈ D
      · obtain ⟨i1, i2⟩ := ixL_in D hin
        have eD : disE f (p + 1) = D := by unfold disE; rw [hD, if_pos hin]
        have hmk : S1.2.1 152 (ixL (f p) D) = nI (cnE f (D.getD (ixL (f p) D) []) p) := (hT1.2 _ i1).2.2
        refine G_aload_n (pc := 35) dX6_take_35 rfl rfl ?_
        refine S_callV (av := []) (pc := 36) (z := mX6_likeLatest) (ci := 5) dX6_take_36 zX6_likeLatest lX6_take_43 rfl (by first | rfl | assumption) rfl rfl (sX6_likeLatest hT1 hDl w2 hxl ⟨_, rfl, ?_⟩)
        refine G_istore (pc := 39) dX6_take_39 (by decide) rfl ?_
        refine G_iload (pc := 41) dX6_take_41 rfl ?_
        refine G_aload_n (pc := 43) dX6_take_43 rfl rfl ?_
        refine S_getI (pc := 44) dX6_take_44 fX6_23 rfl (by first | rfl | assumption) rfl ?_
        rw [hT1.1]
        refine N_icmp_ne (pc := 47) (tgt := 70) dX6_take_47 (by decide) (by omega) (fun c47 => ?_) (fun c47 => absurd c47 (by omega))
        refine G_aload_n (pc := 70) dX6_take_70 rfl rfl ?_
        refine S_getR (pc := 71) (b := 152) dX6_take_71 fX6_19 rfl rfl (by first | rfl | assumption) rfl rfl ?_
        refine G_iload (pc := 74) dX6_take_74 rfl ?_
        refine G_dup2 (pc := 76) dX6_take_76 rfl rfl ?_
        refine N_iald (pc := 77) dX6_take_77 (by first | rfl | assumption) (by first | rfl | assumption) (by omega) ?_
        rw [hmk]
        refine G_iconst (pc := 78) (v := nI 1) dX6_take_78 (by decide) ?_
        refine N_iadd (pc := 79) dX6_take_79 ?_
        refine N_iast (pc := 80) dX6_take_80 (by first | rfl | assumption) (by first | rfl | assumption) (by omega) ?_
        refine N_iinc (pc := 81) dX6_take_81 rfl (by decide) rfl ?_
        refine G_goto (pc := 84) (tgt := 7) dX6_take_84 (by decide) ?_
        have g2 : Fr taX taA S1 (upI S1 152 (ixL (f p) D) (nI (cnE f (D.getD (ixL (f p) D) []) p + 1))) := Fr.upI (by constructor <;> omega)
        refine ih (p + 1) _ _ (by omega) (hN.ta (g1.tr g2)) (hl.fr (g1.tr g2) (by omega) (by omega)) (hpl.fr (g1.tr g2) (by omega)) ?_ (fun S' y1 y2 => h S' ((g1.tr g2).tr y1) y2)
        rw [eD]
        refine ⟨hT1.1, fun k hk => ?_⟩
        obtain ⟨r1, r2, r3⟩ := hT1.2 k hk
        refine ⟨r1.kept rfl (fun j => upI_n (by omega)), r2, ?_⟩
        show _ = nI (cnE f (D.getD k []) p + (if D.getD k [] = f p then 1 else 0))
        by_cases e : k = ixL (f p) D
        · subst e
          rw [upI_s, if_pos i2]
        · rw [upI_n (by omega), if_neg (fun z => e (hij k _ hk i1 (z.trans i2.symm))), r3]
          rfl
      · have hixo := ixL_out D hin
        have eD : disE f (p + 1) = D ++ [f p] := by unfold disE; rw [hD, if_neg hin]
        have hc0 : cnE f (f p) p = 0 := (cnE_0 p).mpr (by rw [hD]; exact hin)
        refine G_aload_n (pc := 35) dX6_take_35 rfl rfl ?_
        refine S_callV (av := []) (pc := 36) (z := mX6_likeLatest) (ci := 5) dX6_take_36 zX6_likeLatest lX6_take_43 rfl (by first | rfl | assumption) rfl rfl (sX6_likeLatest hT1 hDl w2 hxl ⟨_, rfl, ?_⟩)
        rw [hixo]
        refine G_istore (pc := 39) dX6_take_39 (by decide) rfl ?_
        refine G_iload (pc := 41) dX6_take_41 rfl ?_
        refine G_aload_n (pc := 43) dX6_take_43 rfl rfl ?_
        refine S_getI (pc := 44) dX6_take_44 fX6_23 rfl (by first | rfl | assumption) rfl ?_
        rw [hT1.1]
        refine N_icmp_ne (pc := 47) (tgt := 70) dX6_take_47 (by decide) (by omega) (fun c47 => absurd c47 (by omega)) (fun c47 => ?_)
        refine G_aload_n (pc := 50) dX6_take_50 rfl rfl ?_
        refine S_getR (pc := 51) (b := 152) dX6_take_51 fX6_19 rfl rfl (by first | rfl | assumption) rfl rfl ?_
        refine G_aload_n (pc := 54) dX6_take_54 rfl rfl ?_
        refine S_getI (pc := 55) dX6_take_55 fX6_23 rfl (by first | rfl | assumption) rfl ?_
        rw [hT1.1]
        refine G_iconst (pc := 58) (v := nI 0) dX6_take_58 (by decide) ?_
        refine N_iast (pc := 59) dX6_take_59 (by first | rfl | assumption) (by first | rfl | assumption) (by omega) ?_
        refine G_aload_n (pc := 60) dX6_take_60 rfl rfl ?_
        refine G_dup (pc := 61) dX6_take_61 rfl ?_
        refine S_getI (pc := 62) dX6_take_62 fX6_23 rfl (by first | rfl | assumption) rfl ?_
        rw [show (upI S1 152 D.length (nI 0)).1 150 2 = nI D.length from hT1.1]
        refine G_iconst (pc := 65) (v := nI 1) dX6_take_65 (by decide) ?_
        refine N_iadd (pc := 66) dX6_take_66 ?_
        refine S_putI (pc := 67) dX6_take_67 fX6_23 (by decide) rfl (by first | rfl | assumption) rfl ?_
        refine G_aload_n (pc := 70) dX6_take_70 rfl rfl ?_
        refine S_getR (pc := 71) (b := 152) dX6_take_71 fX6_19 rfl rfl (by first | rfl | assumption) rfl rfl ?_
        refine G_iload (pc := 74) dX6_take_74 rfl ?_
        refine G_dup2 (pc := 76) dX6_take_76 rfl rfl ?_
        refine N_iald (pc := 77) dX6_take_77 (by first | rfl | assumption) (by first | rfl | assumption) (by omega) ?_
        rw [show (upX (upI S1 152 D.length (nI 0)) 150 2 (nI (D.length + 1))).2.1 152 D.length = nI 0 from upI_s]
        refine G_iconst (pc := 78) (v := nI 1) dX6_take_78 (by decide) ?_
        refine N_iadd (pc := 79) dX6_take_79 ?_
        refine N_iast (pc := 80) dX6_take_80 (by first | rfl | assumption) (by first | rfl | assumption) (by omega) ?_
        refine N_iinc (pc := 81) dX6_take_81 rfl (by decide) rfl ?_
        refine G_goto (pc := 84) (tgt := 7) dX6_take_84 (by decide) ?_
        have g2 : Fr taX taA S1 (upI (upX (upI S1 152 D.length (nI 0)) 150 2 (nI (D.length + 1))) 152 D.length (nI (0 + 1))) := Fr.tr (Fr.tr (Fr.upI (by constructor <;> omega)) (Fr.upX (Or.inl ⟨rfl, rfl⟩))) (Fr.upI (by constructor <;> omega))
        refine ih (p + 1) _ _ (by omega) (hN.ta (g1.tr g2)) (hl.fr (g1.tr g2) (by omega) (by omega)) (hpl.fr (g1.tr g2) (by omega)) ?_ (fun S' y1 y2 => h S' ((g1.tr g2).tr y1) y2)
        rw [eD]
        refine ⟨?_, fun k hk => ?_⟩
        · show (upX (upI S1 152 D.length (nI 0)) 150 2 (nI (D.length + 1))).1 150 2 = _
          rw [upX_s, List.length_append]
          rfl
        · show RwIs _ _ _ ∧ _ ∧ _ = nI (cnE f ((D ++ [f p]).getD k []) p + (if (D ++ [f p]).getD k [] = f p then 1 else 0))
          by_cases e : k = D.length
          · subst e
            rw [gdI_la]
            refine ⟨w2.kept (upX_n (by omega)) (fun j => (upI_n (by omega)).trans (upI_n (by omega))), hxl, ?_⟩
            rw [upI_s, hc0, if_pos rfl]
          · have hk : k < D.length := by rw [List.length_append] at hk; have hk : k < D.length + 1 := hk; omega
            rw [gdI_lb hk]
            obtain ⟨r1, r2, r3⟩ := hT1.2 k hk
            refine ⟨r1.kept (upX_n (by omega)) (fun j => (upI_n (by omega)).trans (upI_n (by omega))), r2, ?_⟩
            rw [upI_n (by omega), if_neg (fun z => hin (by rw [← z]; exact gdI_mem hk))]
            show (upI S1 152 D.length (nI 0)).2.1 152 k = _
            rw [upI_n (by omega), r3]
            rfl
    refine G_iload_n (pc := 7) dX6_take_7 rfl rfl ?_
    refine G_aload_n (pc := 8) dX6_take_8 rfl rfl ?_
    refine S_getI (pc := 9) dX6_take_9 fX6_30 rfl (by first | rfl | assumption) rfl ?_
    rw [hN.1]
    refine N_icmp_ge (pc := 12) (tgt := 87) dX6_take_12 (by decide) (by omega) (fun c12 => absurd c12 (by omega)) (fun c12 => ?_)
    refine G_aload_n (pc := 15) dX6_take_15 rfl rfl ?_
    refine S_getR (pc := 16) (b := 21) dX6_take_16 fX6_33 rfl rfl (by first | rfl | assumption) rfl rfl ?_
    refine G_iload_n (pc := 19) dX6_take_19 rfl rfl ?_
    refine N_aald (pc := 20) (t := 4) (n := 64) (b := 22 + 2 * p) dX6_take_20 (by first | rfl | assumption) (by first | rfl | assumption) (by decide) (by omega) rfl ?_
    refine G_aload_n (pc := 21) dX6_take_21 rfl rfl ?_
    refine G_aload_n (pc := 22) dX6_take_22 rfl rfl ?_
    refine S_getR (pc := 23) (b := 151) dX6_take_23 fX6_13 rfl rfl (by first | rfl | assumption) rfl rfl ?_
    refine G_aload_n (pc := 26) dX6_take_26 rfl rfl ?_
    refine S_getI (pc := 27) dX6_take_27 fX6_23 rfl (by first | rfl | assumption) rfl ?_
    rw [hT.1]
    refine N_aald (pc := 30) (t := 5) (n := 64) (b := 153 + 2 * D.length) dX6_take_30 (by first | rfl | assumption) (by first | rfl | assumption) (by decide) (by omega) rfl ?_
    refine S_callV (av := [_, _]) (pc := 31) (z := mX3_makeOf) (ci := 2) dX6_take_31 zX3_makeOf lX6_take_37 rfl (by first | rfl | assumption) rfl rfl (sX3_makeOf hPK (ThK_t t ht) hK (by omega) (by omega) hn hby hPg (hok _ hmem).1 (hpb _ hmem) hl hpl (fun S1 q x1 x2 x3 => ⟨_, rfl, ?_⟩) (fun x1 S1 x2 x3 => ⟨_, rfl, ?_⟩))
    · refine G_pop (pc := 34) dX6_take_34 rfl ?_
      exact K S1 x2 (by rw [hfp, x1]; exact x3)
    refine G_pop (pc := 34) dX6_take_34 rfl ?_
    exact K S1 x2 (by rw [hfp, x1]; exact x3)
set_option maxRecDepth 100000 in
set_option maxHeartbeats 4000000 in
theorem sX6_take {t n : Nat} {b : Nat → Int32} {N : List (List Nat)} {f : Nat → List Int32} (ht : t < 12) (hn : n ≤ 16) (hby : ∀ j, j < n → isBy (b j)) (hok : PsOk N) (hpb : PsB N) (hf : ∀ p, p < N.length → f p = (runP b n (N.getD p [])).getD []) (hfl : ∀ p, p < N.length → (f p).length ≤ 35) (hN : NrIs S N) (hl : LnIs S (289 + 7 * t) b n) (hpl : PlIs S (289 + 7 * t) b n)
    (h : ∀ S', Fr taX taA S S' → TaIs S' (disE f N.length) (fun k => cnE f ((disE f N.length).getD k []) N.length) → Q none (mk S')) : CT sc mX6_take [aR 150, aR 6, aR (289 + 7 * t)] (mk S) Q := by
  refine S_of (by decide) rfl ?_
  show G sc mX6_take 0 [some (aR 150), some (aR 6), some (aR (289 + 7 * t)), none, none] [] (mk S) Q
  have g0 : Fr taX taA S (upX S 150 2 (nI 0)) := Fr.upX (Or.inl ⟨rfl, rfl⟩)
  refine G_aload_n (pc := 0) dX6_take_0 rfl rfl ?_
  refine G_iconst (pc := 1) (v := nI 0) dX6_take_1 (by decide) ?_
  refine S_putI (pc := 2) dX6_take_2 fX6_23 (by decide) rfl (by first | rfl | assumption) rfl ?_
  refine G_iconst (pc := 5) (v := nI 0) dX6_take_5 (by decide) ?_
  refine G_istore_n (pc := 6) dX6_take_6 rfl (by decide) rfl ?_
  exact take_lp ht hn hby hN.2.1 hok hpb hf hfl N.length 0 _ _ (by omega) (hN.ta g0) (hl.fr g0 (by omega) (by omega)) (hpl.fr g0 (by omega)) ⟨upX_s, fun k hk => by simp [disE] at hk⟩ (fun S' y1 y2 => h S' (g0.tr y1) y2)
end C18
