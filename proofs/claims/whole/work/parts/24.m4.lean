/-! the model: makePiece, byteOf -/
/-- what may change from S to S': the int fields of px, the rows of pi -/
def Fr (px : Nat → Nat → Prop) (pi : Nat → Prop) (S S' : ST) : Prop := (∀ a j, ¬ px a j → S'.1 a j = S.1 a j) ∧ (∀ a, ¬ pi a → ∀ j, S'.2.1 a j = S.2.1 a j) ∧ S'.2.2 = S.2.2
theorem Fr.rf {px : Nat → Nat → Prop} {pi : Nat → Prop} {S : ST} : Fr px pi S S := ⟨fun _ _ _ => rfl, fun _ _ _ => rfl, rfl⟩
theorem Fr.tr {px : Nat → Nat → Prop} {pi : Nat → Prop} {S S1 S2 : ST} (h1 : Fr px pi S S1) (h2 : Fr px pi S1 S2) : Fr px pi S S2 := ⟨fun a j h => (h2.1 a j h).trans (h1.1 a j h), fun a h j => (h2.2.1 a h j).trans (h1.2.1 a h j), h2.2.2.trans h1.2.2⟩
theorem Fr.mono {px qx : Nat → Nat → Prop} {pi qi : Nat → Prop} {S S1 : ST} (h : Fr px pi S S1) (h1 : ∀ a j, px a j → qx a j) (h2 : ∀ a, pi a → qi a) : Fr qx qi S S1 := ⟨fun a j q => h.1 a j (fun z => q (h1 a j z)), fun a q j => h.2.1 a (fun z => q (h2 a z)) j, h.2.2⟩
theorem Fr.upX {px : Nat → Nat → Prop} {pi : Nat → Prop} {S : ST} {a j : Nat} {v : Int32} (h : px a j) : Fr px pi S (upX S a j v) := ⟨fun b i q => by
  show (if b = a ∧ i = j then v else S.1 b i) = S.1 b i
  rw [if_neg]
  rintro ⟨rfl, rfl⟩
  exact q h, fun _ _ _ => rfl, rfl⟩
theorem Fr.upI {px : Nat → Nat → Prop} {pi : Nat → Prop} {S : ST} {a j : Nat} {v : Int32} (h : pi a) : Fr px pi S (upI S a j v) := ⟨fun _ _ _ => rfl, fun b q i => by
  show (if b = a ∧ i = j then v else S.2.1 b i) = S.2.1 b i
  rw [if_neg]
  rintro ⟨rfl, rfl⟩
  exact q h, rfl⟩
theorem upX_s {S : ST} {a j : Nat} {v : Int32} : (upX S a j v).1 a j = v := by simp [upX]
theorem upX_n {S : ST} {a j b i : Nat} {v : Int32} (h : ¬ (b = a ∧ i = j)) : (upX S a j v).1 b i = S.1 b i := by
  show (if b = a ∧ i = j then v else S.1 b i) = S.1 b i
  rw [if_neg h]
theorem upI_s {S : ST} {a j : Nat} {v : Int32} : (upI S a j v).2.1 a j = v := by simp [upI]
theorem upI_n {S : ST} {a j b i : Nat} {v : Int32} (h : ¬ (b = a ∧ i = j)) : (upI S a j v).2.1 b i = S.2.1 b i := by
  show (if b = a ∧ i = j then v else S.2.1 b i) = S.2.1 b i
  rw [if_neg h]
/-- the row a, with its size at the field (o, j), holds the list l -/
def RowIs (S : ST) (a o j : Nat) (l : List Int32) : Prop := S.1 o j = nI l.length ∧ ∀ i, i < l.length → S.2.1 a i = l.getD i 0
theorem RowIs.push {S : ST} {a o j : Nat} {l : List Int32} {x : Int32} (h : RowIs S a o j l) : RowIs (upX (upI S a l.length x) o j (nI (l.length + 1))) a o j (l ++ [x]) := by
  refine ⟨by rw [upX_s]; simp, fun i hi => ?_⟩
  show (upI S a l.length x).2.1 a i = _
  by_cases h1 : i = l.length
  · subst h1
    rw [upI_s]
    simp
  · rw [upI_n (fun q => h1 q.2), h.2 i (by simp at hi; omega)]
    simp only [List.length_append, List.length_cons, List.length_nil] at hi
    rw [List.getD_eq_getElem?_getD, List.getD_eq_getElem?_getD, List.getElem?_append_left (by omega)]
theorem RowIs.nil {S : ST} {a o j : Nat} : RowIs (upX S o j (nI 0)) a o j [] := ⟨by rw [upX_s]; rfl, fun i hi => by simp at hi⟩
theorem RowIs.kept {S S' : ST} {a o j : Nat} {l : List Int32} (h : RowIs S a o j l) (h1 : S'.1 o j = S.1 o j) (h2 : ∀ i, S'.2.1 a i = S.2.1 a i) : RowIs S' a o j l := ⟨h1.trans h.1, fun i hi => (h2 i).trans (h.2 i hi)⟩
/-- a typed piece's byte i, counted from its end -/
def typB (p i : Nat) : Int32 := nI (p / 2 ^ (8 * i) % 256)
def typF (p : Nat) : Nat → List Int32
  | 0 => []
  | k + 1 => typB p k :: typF p k
def cutF (b : Nat → Int32) (tn : Nat) : Nat → Nat → List Int32
  | 0, _ => []
  | d + 1, i => turnI tn (b i) :: cutF b tn d (i + 1)
theorem typF_len (p : Nat) : ∀ k, (typF p k).length = k
  | 0 => rfl
  | k + 1 => by simp [typF, typF_len p k]
theorem cutF_len (b : Nat → Int32) (tn : Nat) : ∀ d i, (cutF b tn d i).length = d
  | 0, _ => rfl
  | d + 1, i => by simp [cutF, cutF_len b tn d (i + 1)]
/-- what the piece p makes of a line -/
def pcL (b : Nat → Int32) (n p : Nat) : Option (List Int32) :=
  if 16777216 ≤ p then some (typF p (p / 16777216)) else match pl b n (p / 120), pl b n (p / 3 % 40) with
    | some f, some t => if f < t then some (cutF b (p % 3) (t - f) f) else none
    | _, _ => none
abbrev oX (a j : Nat) : Prop := a = 389 ∧ j = 12
abbrev oA (a : Nat) : Prop := a = 397
abbrev OutIs (S : ST) (l : List Int32) : Prop := RowIs S 397 389 12 l
theorem typ_sh {p i : Nat} (hp : p < 67108864) (hi : i < 3) : (nI p >>> (nI (8 * i) &&& 31)) &&& nI 255 = typB p i := by
  have h1 : nI (8 * i) &&& 31 = nI (8 * i) := by
    rcases (show i = 0 ∨ i = 1 ∨ i = 2 by omega) with rfl | rfl | rfl <;> decide
  rw [h1, pk_shrN (by omega) (nI (8 * i)) (8 * i) (by rcases (show i = 0 ∨ i = 1 ∨ i = 2 by omega) with rfl | rfl | rfl <;> decide)]
  rw [pk_andN (by have := Nat.div_le_self p (2 ^ (8 * i)); omega) 8 (by decide)]
  rfl
theorem pl_le {b : Nat → Int32} {n p q : Nat} (h : pl b n p = some q) : q ≤ n := by
  have fl : ∀ (w s : Nat) (l : List (Nat × Nat)) (r : Nat) (fd : Option Nat), (∀ x ∈ l, x.1 ≤ n ∧ x.2 ≤ n) → (∀ x, fd = some x → x ≤ n) → ∀ q, fnd w s l r fd = some q → q ≤ n := by
    intro w s l
    induction l with
    | nil => intro r fd _ h2 q hq; exact h2 q hq
    | cons x l ih =>
      intro r fd h1 h2 q hq
      refine ih (r + 1) _ (fun z hz => h1 z (List.mem_cons_of_mem _ hz)) ?_ q hq
      intro z hz
      have hx := h1 x List.mem_cons_self
      split at hz
      · cases hz
        split
        · exact hx.1
        · exact hx.2
      · exact h2 z hz
  have rg : ∀ (k f i : Nat), ∀ x ∈ runsG b n k f i, x.1 ≤ n ∧ x.2 ≤ n := by
    intro k f
    induction f with
    | zero => intro i x hx; cases hx
    | succ f ih =>
      intro i x hx
      unfold runsG at hx
      split at hx
      · rename_i hi
        split at hx
        · rcases List.mem_cons.mp hx with rfl | hx
          · exact ⟨by dsimp only; omega, rnx_le b n k i hi⟩
          · exact ih _ x hx
        · exact ih _ x hx
      · cases hx
  unfold pl at h
  split at h
  · split at h
    · cases h; assumption
    · cases h
  · split at h
    · split at h
      · cases h; omega
      · cases h
    · exact fl _ _ _ _ _ (rg _ _ _) (fun x hx => by cases hx) q h
section M4
variable {sc : SC} {S : ST} {Q : Option AV → HM → Prop}
set_option maxRecDepth 100000 in
set_option maxHeartbeats 4000000 in
theorem makePiece_typ {t p : Nat} {o4 o5 : Option AV} (hp : p < 67108864) :
    ∀ (k : Nat) (S : ST) (l : List Int32), k ≤ 3 → OutIs S l → l.length + k ≤ 36 → (∀ S', Fr oX oA S S' → OutIs S' (l ++ typF p k) → Q (some (aI (bI true))) (mk S')) →
      G sc mX10_makePiece 13 [some (aR 389), some (aI (nI t)), some (aI (nI p)), some (aI (nI k - nI 1)), o4, o5] [] (mk S) Q := by
  intro k
  induction k with
  | zero =>
    intro S l _ hl _ h
    refine G_iload_n (pc := 13) dX10_makePiece_13 rfl rfl ?_
    refine T_if_lt (pc := 14) (tgt := 52) dX10_makePiece_14 (by decide) (fun c14 => ?_) (fun c14 => absurd c14 (by decide))
    refine G_iconst (pc := 52) (v := nI 1) dX10_makePiece_52 (by decide) ?_
    refine S_zret (pc := 53) dX10_makePiece_53 rfl rfl ?_
    exact h S Fr.rf (by rw [show l ++ typF p 0 = l by simp [typF]]; exact hl)
  | succ k ih =>
    intro S l hk hl hlen h
    rw [show nI (k + 1) - nI 1 = nI k from by rw [pk_sub (by omega)]; congr 1]
    refine G_iload_n (pc := 13) dX10_makePiece_13 rfl rfl ?_
    refine N_if_lt (pc := 14) (tgt := 52) dX10_makePiece_14 (by decide) (by omega) ?_
    refine G_aload_n (pc := 17) dX10_makePiece_17 rfl rfl ?_
    refine S_getR (pc := 18) (b := 397) dX10_makePiece_18 fX10_31 rfl rfl (by first | rfl | assumption) rfl rfl ?_
    refine G_aload_n (pc := 21) dX10_makePiece_21 rfl rfl ?_
    refine S_getI (pc := 22) dX10_makePiece_22 fX10_150 rfl (by first | rfl | assumption) rfl ?_
    rw [hl.1]
    refine G_iload_n (pc := 25) dX10_makePiece_25 rfl rfl ?_
    refine G_bipush (pc := 26) (v := nI 8) dX10_makePiece_26 (by decide) ?_
    refine G_iload_n (pc := 28) dX10_makePiece_28 rfl rfl ?_
    refine N_imul (pc := 29) dX10_makePiece_29 ?_
    refine G_ishr (pc := 30) dX10_makePiece_30 ?_
    skip
    refine G_sipush (pc := 31) (v := nI 255) dX10_makePiece_31 (by decide) ?_
    refine G_iand (pc := 34) dX10_makePiece_34 ?_
    rw [typ_sh hp (by omega)]
    refine N_iast (pc := 35) dX10_makePiece_35 (by first | rfl | assumption) rfl (by omega) ?_
    refine G_aload_n (pc := 36) dX10_makePiece_36 rfl rfl ?_
    refine G_dup (pc := 37) dX10_makePiece_37 rfl ?_
    refine S_getI (pc := 38) dX10_makePiece_38 fX10_150 rfl (by first | rfl | assumption) rfl ?_
    rw [show (upI S 397 l.length (typB p k)).1 389 12 = nI l.length from hl.1]
    refine G_iconst (pc := 41) (v := nI 1) dX10_makePiece_41 (by decide) ?_
    refine N_iadd (pc := 42) dX10_makePiece_42 ?_
    refine S_putI (pc := 43) dX10_makePiece_43 fX10_150 (by decide) rfl (by first | rfl | assumption) rfl ?_
    refine G_iinc (pc := 46) dX10_makePiece_46 rfl (dec1 _) (by decide) rfl ?_
    refine G_goto (pc := 49) (tgt := 13) dX10_makePiece_49 (by decide) ?_
    refine ih (upX (upI S 397 l.length (typB p k)) 389 12 (nI (l.length + 1))) (l ++ [typB p k]) (by omega) hl.push (by simp; omega) (fun S' h1 h2 => h S' (Fr.tr (Fr.tr (Fr.upI rfl) (Fr.upX ⟨rfl, rfl⟩)) h1) (by rw [show l ++ typF p (k + 1) = l ++ [typB p k] ++ typF p k by simp [typF]]; exact h2))
set_option maxRecDepth 100000 in
set_option maxHeartbeats 4000000 in
theorem makePiece_cut {t p to n fr : Nat} (ht : t < 12) (hp : p < 4800) (hto : to ≤ n) (hn : n ≤ 16) :
    ∀ (d i : Nat) (S : ST) (l : List Int32), i + d = to → OutIs S l → l.length + d ≤ 36 → (∀ S', Fr oX oA S S' → OutIs S' (l ++ cutF (fun j => S.2.1 390 (16 * t + j)) (p % 3) d i) → Q (some (aI (bI true))) (mk S')) →
      G sc mX10_makePiece 92 [some (aR 389), some (aI (nI t)), some (aI (nI p)), some (aI (nI fr)), some (aI (nI to)), some (aI (nI i))] [] (mk S) Q := by
  intro d
  induction d with
  | zero =>
    intro i S l hi hl hlen h
    refine G_iload (pc := 92) dX10_makePiece_92 rfl ?_
    refine G_iload (pc := 94) dX10_makePiece_94 rfl ?_
    refine N_icmp_ge (pc := 96) (tgt := 142) dX10_makePiece_96 (by decide) (by omega) (fun c96 => ?_) (fun c96 => absurd c96 (by omega))
    refine G_iconst (pc := 142) (v := nI 1) dX10_makePiece_142 (by decide) ?_
    refine S_zret (pc := 143) dX10_makePiece_143 rfl rfl ?_
    exact h S Fr.rf (by rw [show l ++ cutF (fun j => S.2.1 390 (16 * t + j)) (p % 3) 0 i = l by simp [cutF]]; exact hl)
  | succ d ih =>
    intro i S l hi hl hlen h
    refine G_iload (pc := 92) dX10_makePiece_92 rfl ?_
    refine G_iload (pc := 94) dX10_makePiece_94 rfl ?_
    refine N_icmp_ge (pc := 96) (tgt := 142) dX10_makePiece_96 (by decide) (by omega) (fun c96 => absurd c96 (by omega)) (fun c96 => ?_)
    refine G_aload_n (pc := 99) dX10_makePiece_99 rfl rfl ?_
    refine S_getR (pc := 100) (b := 397) dX10_makePiece_100 fX10_31 rfl rfl (by first | rfl | assumption) rfl rfl ?_
    refine G_aload_n (pc := 103) dX10_makePiece_103 rfl rfl ?_
    refine S_getI (pc := 104) dX10_makePiece_104 fX10_150 rfl (by first | rfl | assumption) rfl ?_
    rw [hl.1]
    refine G_aload_n (pc := 107) dX10_makePiece_107 rfl rfl ?_
    refine S_getR (pc := 108) (b := 390) dX10_makePiece_108 fX10_7 rfl rfl (by first | rfl | assumption) rfl rfl ?_
    refine G_bipush (pc := 111) (v := nI 16) dX10_makePiece_111 (by decide) ?_
    refine G_iload_n (pc := 113) dX10_makePiece_113 rfl rfl ?_
    refine N_imul (pc := 114) dX10_makePiece_114 ?_
    refine G_iload (pc := 115) dX10_makePiece_115 rfl ?_
    refine N_iadd (pc := 117) dX10_makePiece_117 ?_
    refine N_iald (pc := 118) dX10_makePiece_118 (by first | rfl | assumption) rfl (by omega) ?_
    refine G_iload_n (pc := 119) dX10_makePiece_119 rfl rfl ?_
    refine G_iconst (pc := 120) (v := nI 3) dX10_makePiece_120 (by decide) ?_
    refine N_irem (pc := 121) dX10_makePiece_121 (by omega) ?_
    refine S_callS (av := [_, _]) (pc := 122) (z := mX10_turned) dX10_makePiece_122 zX10_turned lX10_makePiece_153 rfl (sX10_turned (by omega) ⟨_, rfl, ?_⟩)
    refine N_iast (pc := 125) dX10_makePiece_125 (by first | rfl | assumption) rfl (by omega) ?_
    refine G_aload_n (pc := 126) dX10_makePiece_126 rfl rfl ?_
    refine G_dup (pc := 127) dX10_makePiece_127 rfl ?_
    refine S_getI (pc := 128) dX10_makePiece_128 fX10_150 rfl (by first | rfl | assumption) rfl ?_
    rw [show (upI S 397 l.length (turnI (p % 3) (S.2.1 390 (16 * t + i)))).1 389 12 = nI l.length from hl.1]
    refine G_iconst (pc := 131) (v := nI 1) dX10_makePiece_131 (by decide) ?_
    refine N_iadd (pc := 132) dX10_makePiece_132 ?_
    refine S_putI (pc := 133) dX10_makePiece_133 fX10_150 (by decide) rfl (by first | rfl | assumption) rfl ?_
    refine N_iinc (pc := 136) dX10_makePiece_136 rfl (by decide) rfl ?_
    refine G_goto (pc := 139) (tgt := 92) dX10_makePiece_139 (by decide) ?_
    refine ih (i + 1) (upX (upI S 397 l.length (turnI (p % 3) (S.2.1 390 (16 * t + i)))) 389 12 (nI (l.length + 1))) (l ++ [turnI (p % 3) (S.2.1 390 (16 * t + i))]) (by omega) hl.push (by simp; omega) (fun S' h1 h2 => h S' (Fr.tr (Fr.tr (Fr.upI rfl) (Fr.upX ⟨rfl, rfl⟩)) h1) ?_)
    have e : ∀ j, (upX (upI S 397 l.length (turnI (p % 3) (S.2.1 390 (16 * t + i)))) 389 12 (nI (l.length + 1))).2.1 390 j = S.2.1 390 j := fun j => upI_n (by omega)
    simp only [e] at h2
    rw [show l ++ cutF (fun j => S.2.1 390 (16 * t + j)) (p % 3) (d + 1) i = l ++ [turnI (p % 3) (S.2.1 390 (16 * t + i))] ++ cutF (fun j => S.2.1 390 (16 * t + j)) (p % 3) d (i + 1) by simp [cutF]]
    exact h2
end M4
