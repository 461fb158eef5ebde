/-! the class: Lasts -/
theorem by16 {x : Int32} (h : -32768 ≤ x.toInt ∧ x.toInt ≤ 32767) : x.toInt16.toInt32 = x := by
  apply Int32.toInt_inj.mp
  rw [Int16.toInt_toInt32, Int32.toInt_toInt16]
  exact Int.bmod_eq_of_le (by omega) (by omega)
theorem by16n {v : Nat} (h : v < 32768) : (nI v).toInt16.toInt32 = nI v := by16 (by rw [nIt (by omega)]; omega)
/-- the piece i of LB begins at x and has the cost c -/
def mch (LB : List (Nat × Nat)) (x c i : Nat) : Prop := (LB.getD i (0, 0)).2 = x ∧ costN (LB.getD i (0, 0)).1 = c
/-- the first such piece from i on -/
def fi (LB : List (Nat × Nat)) (x c : Nat) : Nat → Nat → Option Nat
  | 0, _ => none
  | d + 1, i => if (LB.getD i (0, 0)).2 = x ∧ costN (LB.getD i (0, 0)).1 = c then some i else fi LB x c d (i + 1)
/-- all of them -/
def mt (LB : List (Nat × Nat)) (x c : Nat) : Nat → Nat → List Nat
  | 0, _ => []
  | d + 1, i => if (LB.getD i (0, 0)).2 = x ∧ costN (LB.getD i (0, 0)).1 = c then (LB.getD i (0, 0)).1 :: mt LB x c d (i + 1) else mt LB x c d (i + 1)
theorem fi_none {LB : List (Nat × Nat)} {x c : Nat} : ∀ d i, fi LB x c d i = none ↔ ∀ j, i ≤ j → j < i + d → ¬ mch LB x c j
  | 0, i => ⟨fun _ j h1 h2 => by omega, fun _ => rfl⟩
  | d + 1, i => by
    unfold fi
    split
    · rename_i q
      exact ⟨fun h => (by cases h), fun h => absurd q (h i (Nat.le_refl _) (by omega))⟩
    · rename_i q
      rw [fi_none d (i + 1)]
      refine ⟨fun h j h1 h2 => ?_, fun h j h1 h2 => h j (by omega) (by omega)⟩
      by_cases e : j = i
      · subst e; exact q
      · exact h j (by omega) (by omega)
theorem fi_some {LB : List (Nat × Nat)} {x c j : Nat} : ∀ d i, fi LB x c d i = some j → i ≤ j ∧ j < i + d ∧ mch LB x c j
  | 0, i, h => by cases h
  | d + 1, i, h => by
    unfold fi at h
    split at h
    · rename_i q
      cases h
      exact ⟨Nat.le_refl _, by omega, q⟩
    · have := fi_some d (i + 1) h
      exact ⟨by omega, by omega, this.2.2⟩
theorem mch_app {LB : List (Nat × Nat)} {q : Nat × Nat} {x c i : Nat} (h : i < LB.length) : mch (LB ++ [q]) x c i ↔ mch LB x c i := by
  unfold mch
  rw [getD_app h]
theorem mch_last {LB : List (Nat × Nat)} {q : Nat × Nat} {x c : Nat} : mch (LB ++ [q]) x c LB.length ↔ q.2 = x ∧ costN q.1 = c := by
  unfold mch
  rw [getD_last]
theorem fi_app {LB : List (Nat × Nat)} {q : Nat × Nat} {x c : Nat} : ∀ d i, i + d = LB.length → fi (LB ++ [q]) x c (d + 1) i = (match fi LB x c d i with
  | some j => some j
  | none => if q.2 = x ∧ costN q.1 = c then some LB.length else none)
  | 0, i, h => by
    have e : i = LB.length := by omega
    subst e
    show (if ((LB ++ [q]).getD LB.length (0, 0)).2 = x ∧ costN ((LB ++ [q]).getD LB.length (0, 0)).1 = c then some LB.length else none) = _
    rw [getD_last]
    rfl
  | d + 1, i, h => by
    show (if ((LB ++ [q]).getD i (0, 0)).2 = x ∧ costN ((LB ++ [q]).getD i (0, 0)).1 = c then some i else fi (LB ++ [q]) x c (d + 1) (i + 1)) = _
    rw [getD_app (by omega), fi_app d (i + 1) (by omega)]
    have e : fi LB x c (d + 1) i = if (LB.getD i (0, 0)).2 = x ∧ costN (LB.getD i (0, 0)).1 = c then some i else fi LB x c d (i + 1) := rfl
    rw [e]
    split <;> rfl
theorem mt_none {LB : List (Nat × Nat)} {x c : Nat} : ∀ d i, fi LB x c d i = none → mt LB x c d i = []
  | 0, _, _ => rfl
  | d + 1, i, h => by
    unfold fi at h
    unfold mt
    split at h
    · cases h
    · rename_i q
      rw [if_neg q]
      exact mt_none d (i + 1) h
theorem mt_some {LB : List (Nat × Nat)} {x c j : Nat} : ∀ d i, fi LB x c d i = some j → mt LB x c d i = (LB.getD j (0, 0)).1 :: mt LB x c (i + d - (j + 1)) (j + 1)
  | 0, _, h => by cases h
  | d + 1, i, h => by
    have e0 : mt LB x c (d + 1) i = if (LB.getD i (0, 0)).2 = x ∧ costN (LB.getD i (0, 0)).1 = c then (LB.getD i (0, 0)).1 :: mt LB x c d (i + 1) else mt LB x c d (i + 1) := rfl
    rw [e0]
    unfold fi at h
    split at h
    · rename_i q
      have e : i = j := Option.some.inj h
      subst e
      rw [if_pos q, show i + (d + 1) - (i + 1) = d by omega]
    · rename_i q
      rw [if_neg q, mt_some d (i + 1) h, show i + 1 + d = i + (d + 1) by omega]
theorem cntB_0 {B : List (Nat × Nat)} {x : Nat} (h : cntB B x = 0) : ∀ i, i < B.length → ¬ (B.getD i (0, 0)).2 = x := by
  intro i hi e
  unfold cntB at h
  have h1 := List.length_eq_zero_iff.mp h
  have h2 : B.getD i (0, 0) ∈ B.filter (fun q => q.2 == x) := List.mem_filter.mpr ⟨getD_mem2 hi, by simpa using e⟩
  rw [h1] at h2
  cases h2
abbrev laX (a j : Nat) : Prop := a = 12 ∧ (j = 5 ∨ j = 8)
abbrev laA (a : Nat) : Prop := 13 ≤ a ∧ a ≤ 19
/-- groups: the number of each start, and where a group begins -/
def GrIs (S : ST) (LB : List (Nat × Nat)) (g : Nat) (gr : Nat → Nat) : Prop :=
  (∀ x, x < 65536 → S.2.1 13 x = nI (gr x) ∧ gr x ≤ g) ∧ (∀ x, x < 65536 → ¬ gr x = 0 → S.2.1 14 (gr x) = nI x) ∧ (∀ i, 1 ≤ i → i ≤ g → ∃ x, x < 65536 ∧ gr x = i) ∧
  (∀ x, x < 65536 → gr x = 0 → cntB LB x = 0) ∧ ∀ x, x < 65536 → ¬ gr x = 0 → S.2.1 15 (gr x) = nI (cntB LB x)
/-- the lists of each group -/
def HdIs (S : ST) (LB : List (Nat × Nat)) (gr : Nat → Nat) : Prop :=
  ∀ x c, x < 65536 → c < 3 → ¬ gr x = 0 → S.2.1 16 (3 * gr x + c) = midI (fi LB x (c + 3) LB.length 0) ∧ (¬ fi LB x (c + 3) LB.length 0 = none → ∃ t, t < LB.length ∧ S.2.1 17 (3 * gr x + c) = nI t ∧ mch LB x (c + 3) t ∧ ∀ j, t < j → j < LB.length → ¬ mch LB x (c + 3) j)
def NxIs (S : ST) (LB : List (Nat × Nat)) : Prop := ∀ i, i < LB.length → S.2.1 18 i = nI (LB.getD i (0, 0)).1 ∧ S.2.1 19 i = midI (fi LB (LB.getD i (0, 0)).2 (costN (LB.getD i (0, 0)).1) (LB.length - (i + 1)) (i + 1))
/-- the object Lasts holds LB in g groups -/
def LaIs (S : ST) (LB : List (Nat × Nat)) (g : Nat) : Prop := (S.1 12 5 = nI g ∧ g ≤ 1603) ∧ (S.1 12 8 = nI LB.length ∧ LB.length ≤ 4803) ∧ (∀ q ∈ LB, isPc q.1 ∧ q.2 < 65536) ∧ ∃ gr, GrIs S LB g gr ∧ HdIs S LB gr ∧ NxIs S LB
theorem LaIs.k {S S' : ST} {LB : List (Nat × Nat)} {g : Nat} (h : LaIs S LB g) (h1 : ∀ j, S'.1 12 j = S.1 12 j) (h2 : ∀ a, 13 ≤ a → a ≤ 19 → ∀ j, S'.2.1 a j = S.2.1 a j) : LaIs S' LB g := by
  obtain ⟨a1, a2, a3, gr, a4, a5, a6⟩ := h
  refine ⟨by rw [h1]; exact a1, by rw [h1]; exact a2, a3, gr, ⟨?_, ?_, a4.2.2.1, a4.2.2.2.1, ?_⟩, ?_, ?_⟩
  · intro x hx; rw [h2 13 (by omega) (by omega)]; exact a4.1 x hx
  · intro x hx; rw [h2 14 (by omega) (by omega)]; exact a4.2.1 x hx
  · intro x hx; rw [h2 15 (by omega) (by omega)]; exact a4.2.2.2.2 x hx
  · intro x c hx hc; rw [h2 16 (by omega) (by omega), h2 17 (by omega) (by omega)]; exact a5 x c hx hc
  · intro i hi; rw [h2 18 (by omega) (by omega), h2 19 (by omega) (by omega)]; exact a6 i hi
theorem gr_inj {S : ST} {LB : List (Nat × Nat)} {g x y : Nat} {gr : Nat → Nat} (h : GrIs S LB g gr) (hx : x < 65536) (hy : y < 65536) (h0 : ¬ gr x = 0) (e : gr x = gr y) : x = y := by
  have h1 := h.2.1 x hx h0
  have h2 := h.2.1 y hy (by rw [← e]; exact h0)
  rw [e, h2] at h1
  exact ((nI_eq (by omega) (by omega)).mp h1).symm
theorem k65 : (65536 : Int32) = nI 65536 := rfl
section C5
variable {sc : SC} {S : ST} {Q : Option AV → HM → Prop}
set_option maxRecDepth 100000 in
set_option maxHeartbeats 4000000 in
theorem lastsClear_lp {S0 : ST} {LB : List (Nat × Nat)} {g : Nat} {gr : Nat → Nat} (hg : g ≤ 1603) (hG : GrIs S0 LB g gr) (h : ∀ S', Fr laX laA S0 S' → LaIs S' [] 0 → Q none (mk S')) :
    ∀ (d i : Nat) (S : ST), i + d = g + 1 → 1 ≤ i → Fr noX (onA' 13) S0 S → S.1 12 5 = nI g → (∀ x, x < 65536 → S.2.1 13 x = nI (if gr x < i then 0 else gr x)) →
      G sc mX2_clear 2 [some (aR 12), some (aI (nI i))] [] (mk S) Q := by
  intro d
  induction d with
  | zero =>
    intro i S hi h1 hF hgf hx
    refine G_iload_n (pc := 2) dX2_clear_2 rfl rfl ?_
    refine G_aload_n (pc := 3) dX2_clear_3 rfl rfl ?_
    refine S_getI (pc := 4) dX2_clear_4 fX2_29 rfl (by first | rfl | assumption) rfl ?_
    rw [hgf]
    refine N_icmp_gt (pc := 7) (tgt := 28) dX2_clear_7 (by decide) (by omega) (fun c7 => ?_) (fun c7 => absurd c7 (by omega))
    refine G_aload_n (pc := 28) dX2_clear_28 rfl rfl ?_
    refine G_iconst (pc := 29) (v := nI 0) dX2_clear_29 (by decide) ?_
    refine S_putI (pc := 30) dX2_clear_30 fX2_29 (by decide) rfl (by first | rfl | assumption) rfl ?_
    refine G_aload_n (pc := 33) dX2_clear_33 rfl rfl ?_
    refine G_iconst (pc := 34) (v := nI 0) dX2_clear_34 (by decide) ?_
    refine S_putI (pc := 35) dX2_clear_35 fX2_39 (by decide) rfl (by first | rfl | assumption) rfl ?_
    refine S_vret (pc := 38) dX2_clear_38 rfl ?_
    refine h _ (Fr.tr (Fr.tr (hF.mono (fun a j q => q.elim) (fun a q => by constructor <;> omega)) (Fr.upX ⟨rfl, Or.inl rfl⟩)) (Fr.upX ⟨rfl, Or.inr rfl⟩)) ⟨⟨by rw [upX_n (by omega), upX_s], by omega⟩, ⟨by rw [upX_s]; rfl, by simp⟩, fun q hq => (by cases hq), fun _ => 0, ⟨fun x q => ⟨?_, Nat.le_refl _⟩, fun x q z => absurd rfl z, fun i g1 g2 => by omega, fun x _ _ => rfl, fun x q z => absurd rfl z⟩, fun x c _ _ z => absurd rfl z, fun i hi => by simp at hi⟩
    show S.2.1 13 x = nI 0
    rw [hx x q, if_pos (by have := (hG.1 x q).2; omega)]
  | succ d ih =>
    intro i S hi h1 hF hgf hx
    obtain ⟨x0, y1, y2⟩ := hG.2.2.1 i h1 (by omega)
    have y3 := hG.2.1 x0 y1 (by omega)
    rw [y2] at y3
    have y4 : S.2.1 14 i = nI x0 := (hF.2.1 14 (by decide) i).trans y3
    refine G_iload_n (pc := 2) dX2_clear_2 rfl rfl ?_
    refine G_aload_n (pc := 3) dX2_clear_3 rfl rfl ?_
    refine S_getI (pc := 4) dX2_clear_4 fX2_29 rfl (by first | rfl | assumption) rfl ?_
    rw [hgf]
    refine N_icmp_gt (pc := 7) (tgt := 28) dX2_clear_7 (by decide) (by omega) (fun c7 => absurd c7 (by omega)) (fun c7 => ?_)
    refine G_aload_n (pc := 10) dX2_clear_10 rfl rfl ?_
    refine S_getR (pc := 11) (b := 13) dX2_clear_11 fX2_12 rfl rfl (by first | rfl | assumption) rfl rfl ?_
    refine G_aload_n (pc := 14) dX2_clear_14 rfl rfl ?_
    refine S_getR (pc := 15) (b := 14) dX2_clear_15 fX2_16 rfl rfl (by first | rfl | assumption) rfl rfl ?_
    refine G_iload_n (pc := 18) dX2_clear_18 rfl rfl ?_
    refine N_iald (pc := 19) dX2_clear_19 (by first | rfl | assumption) (by first | rfl | assumption) (by omega) ?_
    rw [y4]
    refine G_iconst (pc := 20) (v := nI 0) dX2_clear_20 (by decide) ?_
    refine N_sast (pc := 21) dX2_clear_21 (by first | rfl | assumption) (by first | rfl | assumption) (by omega) ?_
    rw [by16n (v := 0) (by omega)]
    refine N_iinc (pc := 22) dX2_clear_22 rfl (by decide) rfl ?_
    refine G_goto (pc := 25) (tgt := 2) dX2_clear_25 (by decide) ?_
    refine ih (i + 1) _ (by omega) (by omega) (hF.tr (Fr.upI rfl)) hgf (fun x q => ?_)
    by_cases e : x = x0
    · subst e
      rw [upI_s, if_pos (by omega)]
    · rw [upI_n (by omega), hx x q]
      have z : ¬ gr x = i := fun z => e (gr_inj hG q y1 (by omega) (by omega))
      by_cases w : gr x < i
      · rw [if_pos w, if_pos (by omega)]
      · rw [if_neg w, if_neg (by omega)]
set_option maxRecDepth 100000 in
set_option maxHeartbeats 4000000 in
theorem sX2_clear {LB : List (Nat × Nat)} {g : Nat} (hL : LaIs S LB g) (h : ∀ S', Fr laX laA S S' → LaIs S' [] 0 → Q none (mk S')) : CT sc mX2_clear [aR 12] (mk S) Q := by
  refine S_of (by decide) rfl ?_
  show G sc mX2_clear 0 [some (aR 12), none] [] (mk S) Q
  obtain ⟨a1, a2, a3, gr, a4, a5, a6⟩ := hL
  refine G_iconst (pc := 0) (v := nI 1) dX2_clear_0 (by decide) ?_
  refine G_istore_n (pc := 1) dX2_clear_1 rfl (by decide) rfl ?_
  refine lastsClear_lp a1.2 a4 h g 1 S (by omega) (by omega) Fr.rf a1.1 (fun x q => ?_)
  rw [(a4.1 x q).1]
  split
  · rename_i z
    rw [show gr x = 0 by omega]
  · rfl
set_option maxRecDepth 100000 in
set_option maxHeartbeats 4000000 in
theorem openGroup_lp {g st : Nat} (hg : g ≤ 1603) :
    ∀ (d i : Nat) (S : ST), i + d = 3 → S.1 12 5 = nI g → (∀ c, c < i → S.2.1 16 (3 * g + c) = -1) → (∀ S', Fr noX (onA' 16) S S' → (∀ c, c < 3 → S'.2.1 16 (3 * g + c) = -1) → (∀ j, j < 3 * g → S'.2.1 16 j = S.2.1 16 j) → Q none (mk S')) →
      G sc mX2_openGroup 43 [some (aR 12), some (aI (nI st)), some (aI (nI i))] [] (mk S) Q := by
  intro d
  induction d with
  | zero =>
    intro i S hi hgf hc h
    refine G_iload_n (pc := 43) dX2_openGroup_43 rfl rfl ?_
    refine G_iconst (pc := 44) (v := nI 3) dX2_openGroup_44 (by decide) ?_
    refine N_icmp_ge (pc := 45) (tgt := 68) dX2_openGroup_45 (by decide) (by omega) (fun c45 => ?_) (fun c45 => absurd c45 (by omega))
    refine S_vret (pc := 68) dX2_openGroup_68 rfl ?_
    exact h S Fr.rf (fun c q => hc c (by omega)) (fun _ _ => rfl)
  | succ d ih =>
    intro i S hi hgf hc h
    refine G_iload_n (pc := 43) dX2_openGroup_43 rfl rfl ?_
    refine G_iconst (pc := 44) (v := nI 3) dX2_openGroup_44 (by decide) ?_
    refine N_icmp_ge (pc := 45) (tgt := 68) dX2_openGroup_45 (by decide) (by omega) (fun c45 => absurd c45 (by omega)) (fun c45 => ?_)
    refine G_aload_n (pc := 48) dX2_openGroup_48 rfl rfl ?_
    refine S_getR (pc := 49) (b := 16) dX2_openGroup_49 fX2_23 rfl rfl (by first | rfl | assumption) rfl rfl ?_
    refine G_iconst (pc := 52) (v := nI 3) dX2_openGroup_52 (by decide) ?_
    refine G_aload_n (pc := 53) dX2_openGroup_53 rfl rfl ?_
    refine S_getI (pc := 54) dX2_openGroup_54 fX2_29 rfl (by first | rfl | assumption) rfl ?_
    rw [hgf]
    refine N_imul (pc := 57) dX2_openGroup_57 ?_
    refine G_iload_n (pc := 58) dX2_openGroup_58 rfl rfl ?_
    refine N_iadd (pc := 59) dX2_openGroup_59 ?_
    refine G_iconst (pc := 60) (v := (-1)) dX2_openGroup_60 (by decide) ?_
    refine N_iast (pc := 61) dX2_openGroup_61 (by first | rfl | assumption) (by first | rfl | assumption) (by omega) ?_
    refine N_iinc (pc := 62) dX2_openGroup_62 rfl (by decide) rfl ?_
    refine G_goto (pc := 65) (tgt := 43) dX2_openGroup_65 (by decide) ?_
    refine ih (i + 1) _ (by omega) hgf (fun c q => ?_) (fun S' w1 w2 w3 => h S' (Fr.tr (Fr.upI rfl) w1) w2 (fun j hj => (w3 j hj).trans (upI_n (by omega))))
    by_cases e : c = i
    · subst e
      exact upI_s
    · rw [upI_n (by omega)]
      exact hc c (by omega)
set_option maxRecDepth 100000 in
set_option maxHeartbeats 4000000 in
theorem sX2_openGroup {LB : List (Nat × Nat)} {g st : Nat} (hL : LaIs S LB g) (hg : g < 1603) (hst : st < 65536) (h0 : S.2.1 13 st = nI 0) (h : ∀ S', Fr laX laA S S' → LaIs S' LB (g + 1) → ¬ S'.2.1 13 st = nI 0 → Q none (mk S')) : CT sc mX2_openGroup [aR 12, aI (nI st)] (mk S) Q := by
  refine S_of (by decide) rfl ?_
  show G sc mX2_openGroup 0 [some (aR 12), some (aI (nI st)), none] [] (mk S) Q
  obtain ⟨a1, a2, a3, gr, a4, a5, a6⟩ := hL
  have hgs : gr st = 0 := by
    have := (a4.1 st hst)
    rw [h0] at this
    have h3 := (nI_eq (by omega) (by omega)).mp this.1
    omega
  have hcn := a4.2.2.2.1 st hst hgs
  refine G_aload_n (pc := 0) dX2_openGroup_0 rfl rfl ?_
  refine G_dup (pc := 1) dX2_openGroup_1 rfl ?_
  refine S_getI (pc := 2) dX2_openGroup_2 fX2_29 rfl (by first | rfl | assumption) rfl ?_
  rw [a1.1]
  refine G_iconst (pc := 5) (v := nI 1) dX2_openGroup_5 (by decide) ?_
  refine N_iadd (pc := 6) dX2_openGroup_6 ?_
  refine S_putI (pc := 7) dX2_openGroup_7 fX2_29 (by decide) rfl (by first | rfl | assumption) rfl ?_
  refine G_aload_n (pc := 10) dX2_openGroup_10 rfl rfl ?_
  refine S_getR (pc := 11) (b := 13) dX2_openGroup_11 fX2_12 rfl rfl (by first | rfl | assumption) rfl rfl ?_
  refine G_iload_n (pc := 14) dX2_openGroup_14 rfl rfl ?_
  refine G_aload_n (pc := 15) dX2_openGroup_15 rfl rfl ?_
  refine S_getI (pc := 16) dX2_openGroup_16 fX2_29 rfl (by first | rfl | assumption) rfl ?_
  rw [upX_s]
  refine G_i2s (pc := 19) dX2_openGroup_19 ?_
  rw [by16n (v := g + 1) (by omega)]
  refine N_sast (pc := 20) dX2_openGroup_20 (by first | rfl | assumption) (by first | rfl | assumption) (by omega) ?_
  rw [by16n (v := g + 1) (by omega)]
  refine G_aload_n (pc := 21) dX2_openGroup_21 rfl rfl ?_
  refine S_getR (pc := 22) (b := 14) dX2_openGroup_22 fX2_16 rfl rfl (by first | rfl | assumption) rfl rfl ?_
  refine G_aload_n (pc := 25) dX2_openGroup_25 rfl rfl ?_
  refine S_getI (pc := 26) dX2_openGroup_26 fX2_29 rfl (by first | rfl | assumption) rfl ?_
  rw [show (upI (upX S 12 5 (nI (g + 1))) 13 st (nI (g + 1))).1 12 5 = nI (g + 1) from (show (upX S 12 5 (nI (g + 1))).1 12 5 = nI (g + 1) from upX_s)]
  refine G_iload_n (pc := 29) dX2_openGroup_29 rfl rfl ?_
  refine N_iast (pc := 30) dX2_openGroup_30 (by first | rfl | assumption) (by first | rfl | assumption) (by omega) ?_
  refine G_aload_n (pc := 31) dX2_openGroup_31 rfl rfl ?_
  refine S_getR (pc := 32) (b := 15) dX2_openGroup_32 fX2_20 rfl rfl (by first | rfl | assumption) rfl rfl ?_
  refine G_aload_n (pc := 35) dX2_openGroup_35 rfl rfl ?_
  refine S_getI (pc := 36) dX2_openGroup_36 fX2_29 rfl (by first | rfl | assumption) rfl ?_
  rw [show (upI (upI (upX S 12 5 (nI (g + 1))) 13 st (nI (g + 1))) 14 (g + 1) (nI st)).1 12 5 = nI (g + 1) from (show (upX S 12 5 (nI (g + 1))).1 12 5 = nI (g + 1) from upX_s)]
  refine G_iconst (pc := 39) (v := nI 0) dX2_openGroup_39 (by decide) ?_
  refine N_iast (pc := 40) dX2_openGroup_40 (by first | rfl | assumption) (by first | rfl | assumption) (by omega) ?_
  refine G_iconst (pc := 41) (v := nI 0) dX2_openGroup_41 (by decide) ?_
  refine G_istore_n (pc := 42) dX2_openGroup_42 rfl (by decide) rfl ?_
  refine openGroup_lp (by omega) 3 0 _ (by omega) (show (upX S 12 5 (nI (g + 1))).1 12 5 = nI (g + 1) from upX_s) (fun c q => by omega) (fun S' w1 w2 w3 => h S' ?_ ?_ ?_)
  · exact Fr.tr (Fr.tr (Fr.tr (Fr.tr (Fr.upX ⟨rfl, Or.inl rfl⟩) (Fr.upI (by constructor <;> omega))) (Fr.upI (by constructor <;> omega))) (Fr.upI (by constructor <;> omega))) (w1.mono (fun a j q => q.elim) (fun a q => by constructor <;> omega))
  · have e13 : ∀ x, S'.2.1 13 x = if x = st then nI (g + 1) else S.2.1 13 x := fun x => by
      rw [w1.2.1 13 (by decide), upI_n (by omega), upI_n (by omega)]
      by_cases e : x = st
      · subst e; rw [upI_s, if_pos rfl]
      · rw [upI_n (by omega), if_neg e]; rfl
    have e14 : ∀ x, S'.2.1 14 x = if x = g + 1 then nI st else S.2.1 14 x := fun x => by
      rw [w1.2.1 14 (by decide), upI_n (by omega)]
      by_cases e : x = g + 1
      · subst e; rw [upI_s, if_pos rfl]
      · rw [upI_n (by omega), upI_n (by omega), if_neg e]; rfl
    have e15 : ∀ x, S'.2.1 15 x = if x = g + 1 then nI 0 else S.2.1 15 x := fun x => by
      rw [w1.2.1 15 (by decide)]
      by_cases e : x = g + 1
      · subst e; rw [upI_s, if_pos rfl]
      · rw [upI_n (by omega), upI_n (by omega), upI_n (by omega), if_neg e]; rfl
    have eo : ∀ a, 17 ≤ a → ∀ x, S'.2.1 a x = S.2.1 a x := fun a ha x => by
      rw [w1.2.1 a (by show ¬ _ = _; omega), upI_n (by omega), upI_n (by omega), upI_n (by omega)]; rfl
    have e16 : ∀ x, x < 3 * (g + 1) → S'.2.1 16 x = S.2.1 16 x := fun x hx => by
      rw [w3 x hx, upI_n (by omega), upI_n (by omega), upI_n (by omega)]; rfl
    obtain ⟨gr2, hgr⟩ : ∃ gr2 : Nat → Nat, ∀ x, gr2 x = if x = st then g + 1 else gr x := ⟨_, fun _ => rfl⟩
    refine ⟨⟨(w1.1 12 5 (by simp)).trans (show (upX S 12 5 (nI (g + 1))).1 12 5 = nI (g + 1) from upX_s), by omega⟩, ⟨(w1.1 12 8 (by simp)).trans (show (upX S 12 5 (nI (g + 1))).1 12 8 = _ from (upX_n (by omega)).trans a2.1), a2.2⟩, a3, gr2, ⟨fun x hx => ?_, fun x hx => ?_, fun i i1 i2 => ?_, fun x hx => ?_, fun x hx => ?_⟩, fun x c hx hc => ?_, fun i hi => ?_⟩
    · rw [e13, hgr]
      by_cases e : x = st
      · rw [if_pos e, if_pos e]; exact ⟨rfl, Nat.le_refl _⟩
      · rw [if_neg e, if_neg e]; exact ⟨(a4.1 x hx).1, by have := (a4.1 x hx).2; omega⟩
    · rw [hgr]
      by_cases e : x = st
      · subst e
        intro _
        rw [if_pos rfl, e14, if_pos rfl]
      · rw [if_neg e]
        intro z
        rw [e14, if_neg (by have := (a4.1 x hx).2; omega)]
        exact a4.2.1 x hx z
    · by_cases e : i = g + 1
      · exact ⟨st, hst, by rw [hgr, if_pos rfl]; omega⟩
      · obtain ⟨x, x1, x2⟩ := a4.2.2.1 i i1 (by omega)
        exact ⟨x, x1, by rw [hgr, if_neg (fun z => by subst z; omega)]; exact x2⟩
    · rw [hgr]
      by_cases e : x = st
      · rw [if_pos e]; intro z; omega
      · rw [if_neg e]; exact a4.2.2.2.1 x hx
    · rw [hgr]
      by_cases e : x = st
      · subst e
        intro _
        rw [if_pos rfl, e15, if_pos rfl, hcn]
      · rw [if_neg e]
        intro z
        rw [e15, if_neg (by have := (a4.1 x hx).2; omega)]
        exact a4.2.2.2.2 x hx z
    · rw [hgr]
      by_cases e : x = st
      · subst e
        intro _
        rw [if_pos rfl, w2 c hc]
        have hn : fi LB x (c + 3) LB.length 0 = none := (fi_none _ _).mpr (fun j _ j2 q => cntB_0 hcn j (by omega) q.1)
        rw [hn]
        exact ⟨rfl, fun q => absurd rfl q⟩
      · rw [if_neg e]
        intro z
        rw [e16 _ (by have := (a4.1 x hx).2; omega), eo 17 (by omega)]
        exact a5 x c hx hc z
    · rw [eo 18 (by omega), eo 19 (by omega)]
      exact a6 i hi
  · rw [w1.2.1 13 (by decide), upI_n (by omega), upI_n (by omega), upI_s]
    intro z
    have := (nI_eq (by omega) (by omega)).mp z
    omega
theorem midI_lt {o : Option Nat} {b : Nat} (h : ∀ x, o = some x → x < b) (hb : b < 2147483648) : (midI o).toInt < 0 ↔ o = none := by
  rcases o with _ | x
  · exact ⟨fun _ => rfl, fun _ => (by decide)⟩
  · have := h x rfl
    show (nI x).toInt < 0 ↔ _
    rw [nIt (by omega)]
    exact ⟨fun z => by omega, fun z => (by cases z)⟩
set_option maxRecDepth 100000 in
set_option maxHeartbeats 8000000 in
theorem lastsAdd_b {LB : List (Nat × Nat)} {g st p : Nat} {o3 o4 : Option AV} (hL : LaIs S LB g) (hlen : LB.length < 4803) (hst : st < 65536) (hp : isPc p) (h0 : ¬ S.2.1 13 st = nI 0) (h : ∀ S', Fr laX laA S S' → LaIs S' (LB ++ [(p, st)]) g → ¬ S'.2.1 13 st = nI 0 → Q none (mk S')) : G sc mX2_add 35 [some (aR 12), some (aI (nI st)), some (aI (nI p)), o3, o4] [] (mk S) Q := by
  obtain ⟨a1, a2, a3, gr, a4, a5, a6⟩ := hL
  have hp2 := isPc_lt hp
  have hg1 := a4.1 st hst
  have hgs : ¬ gr st = 0 := fun e => h0 (by rw [hg1.1, e])
  have hc3 : 3 ≤ costN p ∧ costN p ≤ 5 := ⟨by unfold costN; rcases hp with hp | hp <;> split <;> (try split) <;> omega, costN_le hp⟩
  obtain ⟨c, hc⟩ : ∃ c, costN p = c + 3 := ⟨costN p - 3, by omega⟩
  have hcl : c < 3 := by omega
  have hH := a5 st c hst hcl hgs
  have hw := a4.2.2.2.2 st hst hgs
  have hcb := cntB_le LB st
  have e0 : 3 * gr st + costN p - 3 = 3 * gr st + c := by omega
  have fin : ∀ S1 : ST, (∀ a j, S1.1 a j = S.1 a j) → S1.2.2 = S.2.2 → (∀ a, a < 16 ∨ 19 < a → ∀ j, S1.2.1 a j = S.2.1 a j) → (∀ j, S1.2.1 17 j = S.2.1 17 j) → (∀ j, S1.2.1 18 j = if j = LB.length then nI p else S.2.1 18 j) →
      (∀ x c', x < 65536 → c' < 3 → ¬ gr x = 0 → S1.2.1 16 (3 * gr x + c') = midI (fi (LB ++ [(p, st)]) x (c' + 3) (LB.length + 1) 0)) →
      (∀ i, i < LB.length + 1 → S1.2.1 19 i = midI (fi (LB ++ [(p, st)]) ((LB ++ [(p, st)]).getD i (0, 0)).2 (costN ((LB ++ [(p, st)]).getD i (0, 0)).1) (LB.length + 1 - (i + 1)) (i + 1))) →
      G sc mX2_add 114 [some (aR 12), some (aI (nI st)), some (aI (nI p)), some (aI (nI (gr st))), some (aI (nI (3 * gr st + c)))] [] (mk S1) Q := by
    intro S1 f1 f2 f3 f17 f18 f16 f19
    have s1 : S1.1 12 8 = nI LB.length := (f1 12 8).trans a2.1
    refine G_aload_n (pc := 114) dX2_add_114 rfl rfl ?_
    refine S_getR (pc := 115) (b := 17) dX2_add_115 fX2_26 rfl rfl (by first | rfl | assumption) rfl rfl ?_
    refine G_iload (pc := 118) dX2_add_118 rfl ?_
    refine G_aload_n (pc := 120) dX2_add_120 rfl rfl ?_
    refine S_getI (pc := 121) dX2_add_121 fX2_39 rfl (by first | rfl | assumption) rfl ?_
    rw [s1]
    refine N_iast (pc := 124) dX2_add_124 (by first | rfl | assumption) (by first | rfl | assumption) (by omega) ?_
    refine G_aload_n (pc := 125) dX2_add_125 rfl rfl ?_
    refine S_getR (pc := 126) (b := 15) dX2_add_126 fX2_20 rfl rfl (by first | rfl | assumption) rfl rfl ?_
    refine G_iload_n (pc := 129) dX2_add_129 rfl rfl ?_
    refine G_dup2 (pc := 130) dX2_add_130 rfl rfl ?_
    refine N_iald (pc := 131) dX2_add_131 (by first | rfl | assumption) (by first | rfl | assumption) (by omega) ?_
    rw [(show (upI S1 17 (3 * gr st + c) (nI LB.length)).2.1 15 (gr st) = nI (cntB LB st) from (upI_n (by omega)).trans ((f3 15 (by omega) _).trans hw))]
    refine G_iconst (pc := 132) (v := nI 1) dX2_add_132 (by decide) ?_
    refine N_iadd (pc := 133) dX2_add_133 ?_
    refine N_iast (pc := 134) dX2_add_134 (by first | rfl | assumption) (by first | rfl | assumption) (by omega) ?_
    refine G_aload_n (pc := 135) dX2_add_135 rfl rfl ?_
    refine G_dup (pc := 136) dX2_add_136 rfl ?_
    refine S_getI (pc := 137) dX2_add_137 fX2_39 rfl (by first | rfl | assumption) rfl ?_
    rw [show (upI (upI S1 17 (3 * gr st + c) (nI LB.length)) 15 (gr st) (nI (cntB LB st + 1))).1 12 8 = nI LB.length from s1]
    refine G_iconst (pc := 140) (v := nI 1) dX2_add_140 (by decide) ?_
    refine N_iadd (pc := 141) dX2_add_141 ?_
    refine S_putI (pc := 142) dX2_add_142 fX2_39 (by decide) rfl (by first | rfl | assumption) rfl ?_
    refine S_vret (pc := 145) dX2_add_145 rfl ?_
    refine h _ ⟨fun a j q => (upX_n (by omega)).trans (f1 a j), fun a q j => ?_, f2⟩ ⟨⟨(upX_n (by omega)).trans ((f1 12 5).trans a1.1), a1.2⟩, ⟨by rw [upX_s]; simp, by simp; omega⟩, fun q hq => ?_, gr, ⟨fun x hx => ?_, fun x hx z => ?_, a4.2.2.1, fun x hx z => ?_, fun x hx z => ?_⟩, fun x c' hx hc' z => ⟨?_, fun hz => ?_⟩, fun i hi => ⟨?_, ?_⟩⟩ ?_
    · show (upI (upI S1 17 (3 * gr st + c) (nI LB.length)) 15 (gr st) (nI (cntB LB st + 1))).2.1 a j = _
      rw [upI_n (by omega), upI_n (by omega), f3 a (by omega)]
    · rcases List.mem_append.mp hq with hq | hq
      · exact a3 q hq
      · rw [List.mem_singleton] at hq
        subst hq
        exact ⟨hp, hst⟩
    · show (upI (upI S1 17 (3 * gr st + c) (nI LB.length)) 15 (gr st) (nI (cntB LB st + 1))).2.1 13 x = _ ∧ _
      rw [upI_n (by omega), upI_n (by omega), f3 13 (by omega)]
      exact a4.1 x hx
    · show (upI (upI S1 17 (3 * gr st + c) (nI LB.length)) 15 (gr st) (nI (cntB LB st + 1))).2.1 14 (gr x) = _
      rw [upI_n (by omega), upI_n (by omega), f3 14 (by omega)]
      exact a4.2.1 x hx z
    · rw [cntB_app, a4.2.2.2.1 x hx z, if_neg (fun e => hgs (by rw [show st = x from e]; exact z))]
    · show (upI (upI S1 17 (3 * gr st + c) (nI LB.length)) 15 (gr st) (nI (cntB LB st + 1))).2.1 15 (gr x) = _
      by_cases e : x = st
      · subst e
        rw [upI_s, cntB_app, if_pos rfl]
      · rw [upI_n (fun w => e (gr_inj a4 hx hst z w.2)), upI_n (by omega), f3 15 (by omega), cntB_app, if_neg (fun w => e w.symm)]
        exact a4.2.2.2.2 x hx z
    · show (upI (upI S1 17 (3 * gr st + c) (nI LB.length)) 15 (gr st) (nI (cntB LB st + 1))).2.1 16 (3 * gr x + c') = _
      rw [upI_n (by omega), upI_n (by omega), f16 x c' hx hc' z, List.length_append]
      rfl
    · have e17 : (upX (upI (upI S1 17 (3 * gr st + c) (nI LB.length)) 15 (gr st) (nI (cntB LB st + 1))) 12 8 (nI (LB.length + 1))).2.1 17 (3 * gr x + c') = if x = st ∧ c' = c then nI LB.length else S.2.1 17 (3 * gr x + c') := by
        show (upI (upI S1 17 (3 * gr st + c) (nI LB.length)) 15 (gr st) (nI (cntB LB st + 1))).2.1 17 (3 * gr x + c') = _
        rw [upI_n (by omega)]
        by_cases e : x = st ∧ c' = c
        · rw [if_pos e, e.1, e.2, upI_s]
        · rw [if_neg e, upI_n, f17]
          intro w
          have w2 := w.2
          exact e ⟨gr_inj a4 hx hst z (by omega), by omega⟩
      rw [e17]
      by_cases e : x = st ∧ c' = c
      · obtain ⟨rfl, rfl⟩ := e
        rw [if_pos ⟨rfl, rfl⟩]
        exact ⟨LB.length, by simp, rfl, mch_last.mpr ⟨rfl, hc⟩, fun j j1 j2 => by simp at j2; omega⟩
      · rw [if_neg e]
        have hq : ¬ ((p, st).2 = x ∧ costN (p, st).1 = c' + 3) := fun w => e ⟨w.1.symm, by have w2 : costN p = c' + 3 := w.2; omega⟩
        have hz2 : ¬ fi LB x (c' + 3) LB.length 0 = none := fun w => hz (by
          rw [List.length_append]
          show fi (LB ++ [(p, st)]) x (c' + 3) (LB.length + 1) 0 = none
          rw [fi_app LB.length 0 (by omega), w]
          dsimp only
          rw [if_neg hq])
        obtain ⟨t, t1, t2, t3, t4⟩ := (a5 x c' hx hc' z).2 hz2
        refine ⟨t, by simp; omega, t2, (mch_app t1).mpr t3, fun j j1 j2 => ?_⟩
        simp at j2
        by_cases w : j = LB.length
        · subst w
          exact fun w => hq (mch_last.mp w)
        · exact fun w2 => t4 j j1 (by omega) ((mch_app (by omega)).mp w2)
    · show (upI (upI S1 17 (3 * gr st + c) (nI LB.length)) 15 (gr st) (nI (cntB LB st + 1))).2.1 18 i = _
      rw [upI_n (by omega), upI_n (by omega), f18]
      simp at hi
      by_cases e : i = LB.length
      · subst e
        rw [if_pos rfl, getD_last]
      · rw [if_neg e, getD_app (by omega)]
        exact (a6 i (by omega)).1
    · show (upI (upI S1 17 (3 * gr st + c) (nI LB.length)) 15 (gr st) (nI (cntB LB st + 1))).2.1 19 i = _
      simp at hi
      rw [upI_n (by omega), upI_n (by omega), f19 i (by omega), List.length_append]
      rfl
    · show ¬ (upI (upI S1 17 (3 * gr st + c) (nI LB.length)) 15 (gr st) (nI (cntB LB st + 1))).2.1 13 st = nI 0
      rw [upI_n (by omega), upI_n (by omega), f3 13 (by omega)]
      exact h0
  have h16 : ∀ x c', x < 65536 → c' < 3 → ¬ gr x = 0 → ¬ (x = st ∧ c' = c) → S.2.1 16 (3 * gr x + c') = midI (fi (LB ++ [(p, st)]) x (c' + 3) (LB.length + 1) 0) := by
    intro x c' hx hc' z e
    rw [fi_app LB.length 0 (by omega), (a5 x c' hx hc' z).1]
    rcases fi LB x (c' + 3) LB.length 0 with _ | j
    · dsimp only
      rw [if_neg (fun w => e ⟨w.1.symm, by have w2 : costN p = c' + 3 := w.2; omega⟩)]
    · rfl
  have h19 : ∀ i, i < LB.length → ¬ ((LB.getD i (0, 0)).2 = st ∧ costN (LB.getD i (0, 0)).1 = c + 3 ∧ ∀ j, i < j → j < LB.length → ¬ mch LB st (c + 3) j) → S.2.1 19 i = midI (fi (LB ++ [(p, st)]) ((LB ++ [(p, st)]).getD i (0, 0)).2 (costN ((LB ++ [(p, st)]).getD i (0, 0)).1) (LB.length + 1 - (i + 1)) (i + 1)) := by
    intro i hi hn
    rw [getD_app hi, (a6 i hi).2, show LB.length + 1 - (i + 1) = LB.length - (i + 1) + 1 by omega, fi_app (LB.length - (i + 1)) (i + 1) (by omega)]
    rcases hf : fi LB (LB.getD i (0, 0)).2 (costN (LB.getD i (0, 0)).1) (LB.length - (i + 1)) (i + 1) with _ | j
    · dsimp only
      rw [if_neg]
      intro w
      have w1 : st = (LB.getD i (0, 0)).2 := w.1
      have w2 : costN p = costN (LB.getD i (0, 0)).1 := w.2
      refine hn ⟨w1.symm, by omega, fun j j1 j2 => ?_⟩
      have := (fi_none _ _).mp hf j (by omega) (by omega)
      rw [← w1, ← w2, hc] at this
      exact this
    · rfl
  have hlast : ∀ S1 : ST, S1.2.1 19 LB.length = -1 → S1.2.1 19 LB.length = midI (fi (LB ++ [(p, st)]) ((LB ++ [(p, st)]).getD LB.length (0, 0)).2 (costN ((LB ++ [(p, st)]).getD LB.length (0, 0)).1) (LB.length + 1 - (LB.length + 1)) (LB.length + 1)) := by
    intro S1 e
    rw [e, Nat.sub_self]
    rfl
  have hfl : ∀ x, fi LB st (c + 3) LB.length 0 = some x → x < LB.length := fun x hx => by have := fi_some _ _ hx; omega
  have s1 : S.1 12 8 = nI LB.length := a2.1
  refine G_aload_n (pc := 35) dX2_add_35 rfl rfl ?_
  refine S_getR (pc := 36) (b := 13) dX2_add_36 fX2_12 rfl rfl (by first | rfl | assumption) rfl rfl ?_
  refine G_iload_n (pc := 39) dX2_add_39 rfl rfl ?_
  refine N_sald (pc := 40) dX2_add_40 (by first | rfl | assumption) (by first | rfl | assumption) (by omega) ?_
  rw [hg1.1]
  refine G_istore_n (pc := 41) dX2_add_41 rfl (by decide) rfl ?_
  refine G_iconst (pc := 42) (v := nI 3) dX2_add_42 (by decide) ?_
  refine G_iload_n (pc := 43) dX2_add_43 rfl rfl ?_
  refine N_imul (pc := 44) dX2_add_44 ?_
  refine G_iload_n (pc := 45) dX2_add_45 rfl rfl ?_
  refine S_callS (av := [_]) (pc := 46) (z := mX3_costOf) dX2_add_46 zX3_costOf lX2_add_46 rfl (sX3_costOf (by omega) ⟨_, rfl, ?_⟩)
  refine N_iadd (pc := 49) dX2_add_49 ?_
  refine G_iconst (pc := 50) (v := nI 3) dX2_add_50 (by decide) ?_
  refine N_isub (pc := 51) dX2_add_51 (by omega) ?_
  rw [e0]
  refine G_istore (pc := 52) dX2_add_52 (by decide) rfl ?_
  refine G_aload_n (pc := 54) dX2_add_54 rfl rfl ?_
  refine S_getR (pc := 55) (b := 18) dX2_add_55 fX2_33 rfl rfl (by first | rfl | assumption) rfl rfl ?_
  refine G_aload_n (pc := 58) dX2_add_58 rfl rfl ?_
  refine S_getI (pc := 59) dX2_add_59 fX2_39 rfl (by first | rfl | assumption) rfl ?_
  rw [s1]
  refine G_iload_n (pc := 62) dX2_add_62 rfl rfl ?_
  refine N_iast (pc := 63) dX2_add_63 (by first | rfl | assumption) (by first | rfl | assumption) (by omega) ?_
  refine G_aload_n (pc := 64) dX2_add_64 rfl rfl ?_
  refine S_getR (pc := 65) (b := 19) dX2_add_65 fX2_36 rfl rfl (by first | rfl | assumption) rfl rfl ?_
  refine G_aload_n (pc := 68) dX2_add_68 rfl rfl ?_
  refine S_getI (pc := 69) dX2_add_69 fX2_39 rfl (by first | rfl | assumption) rfl ?_
  rw [show (upI S 18 LB.length (nI p)).1 12 8 = nI LB.length from s1]
  refine G_iconst (pc := 72) (v := (-1)) dX2_add_72 (by decide) ?_
  refine N_iast (pc := 73) dX2_add_73 (by first | rfl | assumption) (by first | rfl | assumption) (by omega) ?_
  refine G_aload_n (pc := 74) dX2_add_74 rfl rfl ?_
  refine S_getR (pc := 75) (b := 16) dX2_add_75 fX2_23 rfl rfl (by first | rfl | assumption) rfl rfl ?_
  refine G_iload (pc := 78) dX2_add_78 rfl ?_
  refine N_iald (pc := 80) dX2_add_80 (by first | rfl | assumption) (by first | rfl | assumption) (by omega) ?_
  rw [show (upI (upI S 18 LB.length (nI p)) 19 LB.length (-1)).2.1 16 (3 * gr st + c) = midI (fi LB st (c + 3) LB.length 0) from (upI_n (by omega)).trans ((upI_n (by omega)).trans hH.1)]
  refine T_if_ge (pc := 81) (tgt := 98) dX2_add_81 (by decide) (fun c81 => ?_) (fun c81 => ?_)
  · skip
    have c81 : ¬ fi LB st (c + 3) LB.length 0 = none := fun e => by have := (midI_lt hfl (by omega)).mpr e; omega
    obtain ⟨t, t1, t2, t3, t4⟩ := hH.2 c81
    obtain ⟨j0, hj0⟩ := Option.ne_none_iff_exists'.mp c81
    refine G_aload_n (pc := 98) dX2_add_98 rfl rfl ?_
    refine S_getR (pc := 99) (b := 19) dX2_add_99 fX2_36 rfl rfl (by first | rfl | assumption) rfl rfl ?_
    refine G_aload_n (pc := 102) dX2_add_102 rfl rfl ?_
    refine S_getR (pc := 103) (b := 17) dX2_add_103 fX2_26 rfl rfl (by first | rfl | assumption) rfl rfl ?_
    refine G_iload (pc := 106) dX2_add_106 rfl ?_
    refine N_iald (pc := 108) dX2_add_108 (by first | rfl | assumption) (by first | rfl | assumption) (by omega) ?_
    rw [show (upI (upI S 18 LB.length (nI p)) 19 LB.length (-1)).2.1 17 (3 * gr st + c) = nI t from (upI_n (by omega)).trans ((upI_n (by omega)).trans t2)]
    refine G_aload_n (pc := 109) dX2_add_109 rfl rfl ?_
    refine S_getI (pc := 110) dX2_add_110 fX2_39 rfl (by first | rfl | assumption) rfl ?_
    rw [show (upI (upI S 18 LB.length (nI p)) 19 LB.length (-1)).1 12 8 = nI LB.length from s1]
    refine N_iast (pc := 113) dX2_add_113 (by first | rfl | assumption) (by first | rfl | assumption) (by omega) ?_
    first
    | (refine fin (upI (upI (upI S 18 LB.length (nI p)) 19 LB.length (-1)) 16 (3 * gr st + c) (nI LB.length)) (fun a j => rfl) rfl (fun a ha j => by rw [upI_n (by omega), upI_n (by omega), upI_n (by omega)]) (fun j => by rw [upI_n (by omega), upI_n (by omega), upI_n (by omega)]) (fun j => ?_) (fun x c' hx hc' z => ?_) (fun i hi => ?_)
       · rw [upI_n (by omega), upI_n (by omega)]
         by_cases e : j = LB.length
         · rw [if_pos e, e, upI_s]
         · rw [if_neg e, upI_n (by omega)]
       · by_cases e : x = st ∧ c' = c
         · obtain ⟨rfl, rfl⟩ := e
           rw [upI_s, fi_app LB.length 0 (by omega), c81]
           dsimp only
           rw [if_pos ⟨rfl, hc⟩]
           rfl
         · rw [upI_n (fun w => e ⟨gr_inj a4 hx hst z (by have := w.2; omega), by have := w.2; have := gr_inj a4 hx hst z (by omega); subst this; omega⟩), upI_n (by omega), upI_n (by omega)]
           exact h16 x c' hx hc' z e
       · by_cases e : i = LB.length
         · subst e
           exact hlast _ (by rw [upI_n (by omega), upI_s])
         · rw [upI_n (by omega), upI_n (by omega), upI_n (by omega)]
           exact h19 i (by omega) (fun w => (fi_none _ _).mp c81 i (by omega) (by omega) ⟨w.1, w.2.1⟩))
    | (refine fin (upI (upI (upI S 18 LB.length (nI p)) 19 LB.length (-1)) 19 t (nI LB.length)) (fun a j => rfl) rfl (fun a ha j => by rw [upI_n (by omega), upI_n (by omega), upI_n (by omega)]) (fun j => by rw [upI_n (by omega), upI_n (by omega), upI_n (by omega)]) (fun j => ?_) (fun x c' hx hc' z => ?_) (fun i hi => ?_)
       · rw [upI_n (by omega), upI_n (by omega)]
         by_cases e : j = LB.length
         · rw [if_pos e, e, upI_s]
         · rw [if_neg e, upI_n (by omega)]
       · rw [upI_n (by omega), upI_n (by omega), upI_n (by omega)]
         by_cases e : x = st ∧ c' = c
         · obtain ⟨rfl, rfl⟩ := e
           rw [fi_app LB.length 0 (by omega), hH.1, hj0]
         · exact h16 x c' hx hc' z e
       · by_cases e : i = LB.length
         · subst e
           exact hlast _ (by rw [upI_n (by omega), upI_s])
         · by_cases e2 : i = t
           · subst e2
             rw [upI_s, getD_app t1, t3.1, t3.2, show LB.length + 1 - (i + 1) = LB.length - (i + 1) + 1 by omega, fi_app (LB.length - (i + 1)) (i + 1) (by omega), (fi_none (LB := LB) (x := st) (c := c + 3) (LB.length - (i + 1)) (i + 1)).mpr (fun j j1 j2 => t4 j (by omega) (by omega))]
             dsimp only
             rw [if_pos ⟨rfl, hc⟩]
             rfl
           · rw [upI_n (by omega), upI_n (by omega), upI_n (by omega)]
             refine h19 i (by omega) (fun w => ?_)
             rcases Nat.lt_or_ge i t with q | q
             · exact w.2.2 t q t1 t3
             · exact t4 i (by omega) (by omega) ⟨w.1, w.2.1⟩)
  · skip
    have c81 := (midI_lt hfl (by omega)).mp (by omega)
    refine G_aload_n (pc := 84) dX2_add_84 rfl rfl ?_
    refine S_getR (pc := 85) (b := 16) dX2_add_85 fX2_23 rfl rfl (by first | rfl | assumption) rfl rfl ?_
    refine G_iload (pc := 88) dX2_add_88 rfl ?_
    refine G_aload_n (pc := 90) dX2_add_90 rfl rfl ?_
    refine S_getI (pc := 91) dX2_add_91 fX2_39 rfl (by first | rfl | assumption) rfl ?_
    rw [show (upI (upI S 18 LB.length (nI p)) 19 LB.length (-1)).1 12 8 = nI LB.length from s1]
    refine N_iast (pc := 94) dX2_add_94 (by first | rfl | assumption) (by first | rfl | assumption) (by omega) ?_
    refine G_goto (pc := 95) (tgt := 114) dX2_add_95 (by decide) ?_
    first
    | (refine fin (upI (upI (upI S 18 LB.length (nI p)) 19 LB.length (-1)) 16 (3 * gr st + c) (nI LB.length)) (fun a j => rfl) rfl (fun a ha j => by rw [upI_n (by omega), upI_n (by omega), upI_n (by omega)]) (fun j => by rw [upI_n (by omega), upI_n (by omega), upI_n (by omega)]) (fun j => ?_) (fun x c' hx hc' z => ?_) (fun i hi => ?_)
       · rw [upI_n (by omega), upI_n (by omega)]
         by_cases e : j = LB.length
         · rw [if_pos e, e, upI_s]
         · rw [if_neg e, upI_n (by omega)]
       · by_cases e : x = st ∧ c' = c
         · obtain ⟨rfl, rfl⟩ := e
           rw [upI_s, fi_app LB.length 0 (by omega), c81]
           dsimp only
           rw [if_pos ⟨rfl, hc⟩]
           rfl
         · rw [upI_n (fun w => e ⟨gr_inj a4 hx hst z (by have := w.2; omega), by have := w.2; have := gr_inj a4 hx hst z (by omega); subst this; omega⟩), upI_n (by omega), upI_n (by omega)]
           exact h16 x c' hx hc' z e
       · by_cases e : i = LB.length
         · subst e
           exact hlast _ (by rw [upI_n (by omega), upI_s])
         · rw [upI_n (by omega), upI_n (by omega), upI_n (by omega)]
           exact h19 i (by omega) (fun w => (fi_none _ _).mp c81 i (by omega) (by omega) ⟨w.1, w.2.1⟩))
    | (refine fin (upI (upI (upI S 18 LB.length (nI p)) 19 LB.length (-1)) 19 t (nI LB.length)) (fun a j => rfl) rfl (fun a ha j => by rw [upI_n (by omega), upI_n (by omega), upI_n (by omega)]) (fun j => by rw [upI_n (by omega), upI_n (by omega), upI_n (by omega)]) (fun j => ?_) (fun x c' hx hc' z => ?_) (fun i hi => ?_)
       · rw [upI_n (by omega), upI_n (by omega)]
         by_cases e : j = LB.length
         · rw [if_pos e, e, upI_s]
         · rw [if_neg e, upI_n (by omega)]
       · rw [upI_n (by omega), upI_n (by omega), upI_n (by omega)]
         by_cases e : x = st ∧ c' = c
         · obtain ⟨rfl, rfl⟩ := e
           rw [fi_app LB.length 0 (by omega), hH.1, hj0]
         · exact h16 x c' hx hc' z e
       · by_cases e : i = LB.length
         · subst e
           exact hlast _ (by rw [upI_n (by omega), upI_s])
         · by_cases e2 : i = t
           · subst e2
             rw [upI_s, getD_app t1, t3.1, t3.2, show LB.length + 1 - (i + 1) = LB.length - (i + 1) + 1 by omega, fi_app (LB.length - (i + 1)) (i + 1) (by omega), (fi_none (LB := LB) (x := st) (c := c + 3) (LB.length - (i + 1)) (i + 1)).mpr (fun j j1 j2 => t4 j (by omega) (by omega))]
             dsimp only
             rw [if_pos ⟨rfl, hc⟩]
             rfl
           · rw [upI_n (by omega), upI_n (by omega), upI_n (by omega)]
             refine h19 i (by omega) (fun w => ?_)
             rcases Nat.lt_or_ge i t with q | q
             · exact w.2.2 t q t1 t3
             · exact t4 i (by omega) (by omega) ⟨w.1, w.2.1⟩)
set_option maxRecDepth 100000 in
set_option maxHeartbeats 4000000 in
theorem sX2_add {LB : List (Nat × Nat)} {g st p GM : Nat} (hL : LaIs S LB g) (hlen : LB.length < 4803) (hst : st < 65536) (hp : isPc p) (hG : GM < 1603) (hg : g ≤ GM ∨ (¬ S.2.1 13 st = nI 0 ∧ g ≤ GM + 1)) (h : ∀ S' g', Fr laX laA S S' → LaIs S' (LB ++ [(p, st)]) g' → ¬ S'.2.1 13 st = nI 0 → g' ≤ GM + 1 → Q none (mk S')) : CT sc mX2_add [aR 12, aI (nI st), aI (nI p)] (mk S) Q := by
  refine S_of (by decide) rfl ?_
  show G sc mX2_add 0 [some (aR 12), some (aI (nI st)), some (aI (nI p)), none, none] [] (mk S) Q
  have hp2 := isPc_lt hp
  have hz : (S.2.1 13 st).toInt = 0 ↔ S.2.1 13 st = nI 0 := ⟨fun e => nI_ofT e, fun e => by rw [e]; rfl⟩
  refine G_iload_n (pc := 0) dX2_add_0 rfl rfl ?_
  refine N_if_lt (pc := 1) (tgt := 20) dX2_add_1 (by decide) (by omega) ?_
  refine G_iload_n (pc := 4) dX2_add_4 rfl rfl ?_
  refine G_ldc (pc := 5) dX2_add_5 kX2_11 ?_
  rw [k65]
  refine N_icmp_ge (pc := 7) (tgt := 20) dX2_add_7 (by decide) (by omega) (fun c7 => absurd c7 (by omega)) (fun c7 => ?_)
  refine G_aload_n (pc := 10) dX2_add_10 rfl rfl ?_
  refine S_getI (pc := 11) dX2_add_11 fX2_39 rfl (by first | rfl | assumption) rfl ?_
  rw [hL.2.1.1]
  refine G_sipush (pc := 14) (v := nI 4803) dX2_add_14 (by decide) ?_
  refine N_icmp_lt (pc := 17) (tgt := 21) dX2_add_17 (by decide) (by omega) (fun c17 => ?_) (fun c17 => absurd c17 (by omega))
  refine G_aload_n (pc := 21) dX2_add_21 rfl rfl ?_
  refine S_getR (pc := 22) (b := 13) dX2_add_22 fX2_12 rfl rfl (by first | rfl | assumption) rfl rfl ?_
  refine G_iload_n (pc := 25) dX2_add_25 rfl rfl ?_
  refine N_sald (pc := 26) dX2_add_26 (by first | rfl | assumption) (by first | rfl | assumption) (by omega) ?_
  refine T_if_ne (pc := 27) (tgt := 35) dX2_add_27 (by decide) (fun c27 => ?_) (fun c27 => ?_)
  · skip
    first
    | exact lastsAdd_b w2 hlen hst hp w3 (fun S' v1 v2 v3 => h S' _ (w1.tr v1) v2 v3 (by have := hz.mp c27; rcases hg with hg | hg; omega; exact absurd this hg.1))
    | exact lastsAdd_b hL hlen hst hp (fun e => c27 (hz.mpr e)) (fun S' v1 v2 v3 => h S' _ v1 v2 v3 (by omega))
  · skip
    refine G_aload_n (pc := 30) dX2_add_30 rfl rfl ?_
    refine G_iload_n (pc := 31) dX2_add_31 rfl rfl ?_
    refine S_callV (av := [_]) (pc := 32) (z := mX2_openGroup) (ci := 1) dX2_add_32 zX2_openGroup lX2_add_42 rfl (by first | rfl | assumption) rfl rfl (sX2_openGroup hL (by have := hz.mp c27; rcases hg with hg | hg; omega; exact absurd this hg.1) hst (hz.mp c27) (fun S1 w1 w2 w3 => ⟨_, rfl, ?_⟩))
    first
    | exact lastsAdd_b w2 hlen hst hp w3 (fun S' v1 v2 v3 => h S' _ (w1.tr v1) v2 v3 (by have := hz.mp c27; rcases hg with hg | hg; omega; exact absurd this hg.1))
    | exact lastsAdd_b hL hlen hst hp (fun e => c27 (hz.mpr e)) (fun S' v1 v2 v3 => h S' _ v1 v2 v3 (by omega))
set_option maxRecDepth 100000 in
set_option maxHeartbeats 4000000 in
theorem sX2_groupAt {st : Nat} (hst : st < 65536) (h : Q (some (aI (S.2.1 13 st))) (mk S)) : CT sc mX2_groupAt [aR 12, aI (nI st)] (mk S) Q := by
  refine S_of (by decide) rfl ?_
  show G sc mX2_groupAt 0 [some (aR 12), some (aI (nI st))] [] (mk S) Q
  refine G_iload_n (pc := 0) dX2_groupAt_0 rfl rfl ?_
  refine N_if_lt (pc := 1) (tgt := 10) dX2_groupAt_1 (by decide) (by omega) ?_
  refine G_iload_n (pc := 4) dX2_groupAt_4 rfl rfl ?_
  refine G_ldc (pc := 5) dX2_groupAt_5 kX2_11 ?_
  rw [k65]
  refine N_icmp_lt (pc := 7) (tgt := 14) dX2_groupAt_7 (by decide) (by omega) (fun c7 => ?_) (fun c7 => absurd c7 (by omega))
  refine G_aload_n (pc := 14) dX2_groupAt_14 rfl rfl ?_
  refine S_getR (pc := 15) (b := 13) dX2_groupAt_15 fX2_12 rfl rfl (by first | rfl | assumption) rfl rfl ?_
  refine G_iload_n (pc := 18) dX2_groupAt_18 rfl rfl ?_
  refine N_sald (pc := 19) dX2_groupAt_19 (by first | rfl | assumption) (by first | rfl | assumption) (by omega) ?_
  refine S_iret (pc := 20) dX2_groupAt_20 rfl ?_
  exact h
set_option maxRecDepth 100000 in
set_option maxHeartbeats 4000000 in
theorem sX2_waysFrom {LB : List (Nat × Nat)} {g st : Nat} (hL : LaIs S LB g) (hst : st < 65536) (h : Q (some (aI (nI (cntB LB st)))) (mk S)) : CT sc mX2_waysFrom [aR 12, aI (nI st)] (mk S) Q := by
  refine S_of (by decide) rfl ?_
  show G sc mX2_waysFrom 0 [some (aR 12), some (aI (nI st)), none] [] (mk S) Q
  obtain ⟨a1, a2, a3, gr, a4, a5, a6⟩ := hL
  have hg1 := a4.1 st hst
  refine G_aload_n (pc := 0) dX2_waysFrom_0 rfl rfl ?_
  refine G_iload_n (pc := 1) dX2_waysFrom_1 rfl rfl ?_
  refine S_callV (av := [_]) (pc := 2) (z := mX2_groupAt) (ci := 1) dX2_waysFrom_2 zX2_groupAt lX2_waysFrom_52 rfl (by first | rfl | assumption) rfl rfl (sX2_groupAt hst ⟨_, rfl, ?_⟩)
  rw [hg1.1]
  refine G_istore_n (pc := 5) dX2_waysFrom_5 rfl (by decide) rfl ?_
  refine G_iload_n (pc := 6) dX2_waysFrom_6 rfl rfl ?_
  refine N_if_ne (pc := 7) (tgt := 14) dX2_waysFrom_7 (by decide) (by omega) (fun c7 => ?_) (fun c7 => ?_)
  · skip
    refine G_aload_n (pc := 14) dX2_waysFrom_14 rfl rfl ?_
    refine S_getR (pc := 15) (b := 15) dX2_waysFrom_15 fX2_20 rfl rfl (by first | rfl | assumption) rfl rfl ?_
    refine G_iload_n (pc := 18) dX2_waysFrom_18 rfl rfl ?_
    refine N_iald (pc := 19) dX2_waysFrom_19 (by first | rfl | assumption) (by first | rfl | assumption) (by omega) ?_
    rw [a4.2.2.2.2 st hst c7]
    refine S_iret (pc := 20) dX2_waysFrom_20 rfl ?_
    exact h
  · skip
    rw [a4.2.2.2.1 st hst c7] at h
    refine G_iconst (pc := 10) (v := nI 0) dX2_waysFrom_10 (by decide) ?_
    refine G_goto (pc := 11) (tgt := 20) dX2_waysFrom_11 (by decide) ?_
    refine S_iret (pc := 20) dX2_waysFrom_20 rfl ?_
    exact h
/-- the first piece of the cost c that begins at x, from the first on -/
def fiI (LB : List (Nat × Nat)) (x : Nat) (c : Int) : Option Nat := if 3 ≤ c ∧ c ≤ 5 then fi LB x c.toNat LB.length 0 else none
set_option maxRecDepth 100000 in
set_option maxHeartbeats 4000000 in
theorem sX2_headOf {LB : List (Nat × Nat)} {g st : Nat} {c : Int32} (hL : LaIs S LB g) (hst : st < 65536) (h : Q (some (aI (midI (fiI LB st c.toInt)))) (mk S)) : CT sc mX2_headOf [aR 12, aI (nI st), aI c] (mk S) Q := by
  refine S_of (by decide) rfl ?_
  show G sc mX2_headOf 0 [some (aR 12), some (aI (nI st)), some (aI c), none] [] (mk S) Q
  obtain ⟨a1, a2, a3, gr, a4, a5, a6⟩ := hL
  have hg1 := a4.1 st hst
  have z3 : (nI 3).toInt = 3 := rfl
  have z5 : (nI 5).toInt = 5 := rfl
  unfold fiI at h
  refine G_aload_n (pc := 0) dX2_headOf_0 rfl rfl ?_
  refine G_iload_n (pc := 1) dX2_headOf_1 rfl rfl ?_
  refine S_callV (av := [_]) (pc := 2) (z := mX2_groupAt) (ci := 1) dX2_headOf_2 zX2_groupAt lX2_headOf_52 rfl (by first | rfl | assumption) rfl rfl (sX2_groupAt hst ⟨_, rfl, ?_⟩)
  rw [hg1.1]
  refine G_istore_n (pc := 5) dX2_headOf_5 rfl (by decide) rfl ?_
  refine G_iload_n (pc := 6) dX2_headOf_6 rfl rfl ?_
  refine N_if_eq (pc := 7) (tgt := 20) dX2_headOf_7 (by decide) (by omega) (fun c7 => ?_) (fun c7 => ?_)
  · skip
    have h : Q (some (aI (-1))) (mk S) := by
      by_cases q : 3 ≤ c.toInt ∧ c.toInt ≤ 5
      · rw [if_pos q, (fi_none _ _).mpr (fun j _ j2 w => cntB_0 (a4.2.2.2.1 st hst c7) j (by omega) w.1)] at h
        exact h
      · rw [if_neg q] at h
        exact h
    refine G_iconst (pc := 20) (v := (-1)) dX2_headOf_20 (by decide) ?_
    refine G_goto (pc := 21) (tgt := 36) dX2_headOf_21 (by decide) ?_
    refine S_iret (pc := 36) dX2_headOf_36 rfl ?_
    exact h
  · skip
    refine G_iload_n (pc := 10) dX2_headOf_10 rfl rfl ?_
    refine G_iconst (pc := 11) (v := nI 3) dX2_headOf_11 (by decide) ?_
    refine T_icmp_lt (pc := 12) (tgt := 20) dX2_headOf_12 (by decide) (fun c12 => ?_) (fun c12 => ?_)
    · skip
      rw [z3] at c12
      rw [if_neg (by omega)] at h
      refine G_iconst (pc := 20) (v := (-1)) dX2_headOf_20 (by decide) ?_
      refine G_goto (pc := 21) (tgt := 36) dX2_headOf_21 (by decide) ?_
      refine S_iret (pc := 36) dX2_headOf_36 rfl ?_
      exact h
    · skip
      rw [z3] at c12
      refine G_iload_n (pc := 15) dX2_headOf_15 rfl rfl ?_
      refine G_iconst (pc := 16) (v := nI 5) dX2_headOf_16 (by decide) ?_
      refine T_icmp_le (pc := 17) (tgt := 24) dX2_headOf_17 (by decide) (fun c17 => ?_) (fun c17 => ?_)
      · skip
        rw [z5] at c17
        rw [if_pos (by omega)] at h
        have e1 : c = nI c.toInt.toNat := nI_ofT (by omega)
        have e2 : 3 * gr st + c.toInt.toNat - 3 = 3 * gr st + (c.toInt.toNat - 3) := by omega
        have hH := (a5 st (c.toInt.toNat - 3) hst (by omega) c7).1
        rw [show c.toInt.toNat - 3 + 3 = c.toInt.toNat by omega] at hH
        refine G_aload_n (pc := 24) dX2_headOf_24 rfl rfl ?_
        refine S_getR (pc := 25) (b := 16) dX2_headOf_25 fX2_23 rfl rfl (by first | rfl | assumption) rfl rfl ?_
        refine G_iconst (pc := 28) (v := nI 3) dX2_headOf_28 (by decide) ?_
        refine G_iload_n (pc := 29) dX2_headOf_29 rfl rfl ?_
        refine N_imul (pc := 30) dX2_headOf_30 ?_
        refine G_iload_n (pc := 31) dX2_headOf_31 rfl rfl ?_
        rw [e1]
        refine N_iadd (pc := 32) dX2_headOf_32 ?_
        refine G_iconst (pc := 33) (v := nI 3) dX2_headOf_33 (by decide) ?_
        refine N_isub (pc := 34) dX2_headOf_34 (by omega) ?_
        rw [e2]
        refine N_iald (pc := 35) dX2_headOf_35 (by first | rfl | assumption) (by first | rfl | assumption) (by omega) ?_
        rw [hH]
        refine S_iret (pc := 36) dX2_headOf_36 rfl ?_
        exact h
      · skip
        rw [z5] at c17
        rw [if_neg (by omega)] at h
        refine G_iconst (pc := 20) (v := (-1)) dX2_headOf_20 (by decide) ?_
        refine G_goto (pc := 21) (tgt := 36) dX2_headOf_21 (by decide) ?_
        refine S_iret (pc := 36) dX2_headOf_36 rfl ?_
        exact h
set_option maxRecDepth 100000 in
set_option maxHeartbeats 4000000 in
theorem sX2_nextOf {LB : List (Nat × Nat)} {g i : Nat} (hL : LaIs S LB g) (hi : i < LB.length) (h : Q (some (aI (midI (fi LB (LB.getD i (0, 0)).2 (costN (LB.getD i (0, 0)).1) (LB.length - (i + 1)) (i + 1))))) (mk S)) : CT sc mX2_nextOf [aR 12, aI (nI i)] (mk S) Q := by
  refine S_of (by decide) rfl ?_
  show G sc mX2_nextOf 0 [some (aR 12), some (aI (nI i))] [] (mk S) Q
  obtain ⟨a1, a2, a3, gr, a4, a5, a6⟩ := hL
  refine G_iload_n (pc := 0) dX2_nextOf_0 rfl rfl ?_
  refine N_if_lt (pc := 1) (tgt := 12) dX2_nextOf_1 (by decide) (by omega) ?_
  refine G_iload_n (pc := 4) dX2_nextOf_4 rfl rfl ?_
  refine G_aload_n (pc := 5) dX2_nextOf_5 rfl rfl ?_
  refine S_getI (pc := 6) dX2_nextOf_6 fX2_39 rfl (by first | rfl | assumption) rfl ?_
  rw [a2.1]
  refine N_icmp_lt (pc := 9) (tgt := 16) dX2_nextOf_9 (by decide) (by omega) (fun c9 => ?_) (fun c9 => absurd c9 (by omega))
  refine G_aload_n (pc := 16) dX2_nextOf_16 rfl rfl ?_
  refine S_getR (pc := 17) (b := 19) dX2_nextOf_17 fX2_36 rfl rfl (by first | rfl | assumption) rfl rfl ?_
  refine G_iload_n (pc := 20) dX2_nextOf_20 rfl rfl ?_
  refine N_iald (pc := 21) dX2_nextOf_21 (by first | rfl | assumption) (by first | rfl | assumption) (by omega) ?_
  rw [(a6 i hi).2]
  refine S_iret (pc := 22) dX2_nextOf_22 rfl ?_
  exact h
set_option maxRecDepth 100000 in
set_option maxHeartbeats 4000000 in
theorem sX2_pieceAt {LB : List (Nat × Nat)} {g i : Nat} (hL : LaIs S LB g) (hi : i < LB.length) (h : Q (some (aI (nI (LB.getD i (0, 0)).1))) (mk S)) : CT sc mX2_pieceAt [aR 12, aI (nI i)] (mk S) Q := by
  refine S_of (by decide) rfl ?_
  show G sc mX2_pieceAt 0 [some (aR 12), some (aI (nI i))] [] (mk S) Q
  obtain ⟨a1, a2, a3, gr, a4, a5, a6⟩ := hL
  refine G_iload_n (pc := 0) dX2_pieceAt_0 rfl rfl ?_
  refine N_if_lt (pc := 1) (tgt := 12) dX2_pieceAt_1 (by decide) (by omega) ?_
  refine G_iload_n (pc := 4) dX2_pieceAt_4 rfl rfl ?_
  refine G_aload_n (pc := 5) dX2_pieceAt_5 rfl rfl ?_
  refine S_getI (pc := 6) dX2_pieceAt_6 fX2_39 rfl (by first | rfl | assumption) rfl ?_
  rw [a2.1]
  refine N_icmp_lt (pc := 9) (tgt := 17) dX2_pieceAt_9 (by decide) (by omega) (fun c9 => ?_) (fun c9 => absurd c9 (by omega))
  refine G_aload_n (pc := 17) dX2_pieceAt_17 rfl rfl ?_
  refine S_getR (pc := 18) (b := 18) dX2_pieceAt_18 fX2_33 rfl rfl (by first | rfl | assumption) rfl rfl ?_
  refine G_iload_n (pc := 21) dX2_pieceAt_21 rfl rfl ?_
  refine N_iald (pc := 22) dX2_pieceAt_22 (by first | rfl | assumption) (by first | rfl | assumption) (by omega) ?_
  rw [(a6 i hi).1]
  refine S_iret (pc := 23) dX2_pieceAt_23 rfl ?_
  exact h
end C5
