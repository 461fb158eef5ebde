/-! the model: noteNear, noteWith -/
def NeIs (S : ST) (N : List (List Nat)) : Prop := N.length ≤ 64 ∧ S.1 389 22 = nI N.length ∧ ∀ i, i < N.length → PrIs S 404 (3 * i) (N.getD i [])
/-- N and then l, but no more than 64 -/
def tk (N l : List (List Nat)) : List (List Nat) := (N ++ l).take 64
theorem tk_le (N l : List (List Nat)) : (tk N l).length ≤ 64 := by unfold tk; rw [List.length_take]; omega
theorem tk_nil {N : List (List Nat)} (h : N.length ≤ 64) : tk N [] = N := by unfold tk; rw [List.append_nil, List.take_of_length_le h]
theorem tk_full {N l : List (List Nat)} (h : N.length = 64) : tk N l = N := by
  unfold tk
  rw [← h, List.take_left]
theorem tk_tk {N l1 l2 : List (List Nat)} : tk (tk N l1) l2 = tk N (l1 ++ l2) := by
  unfold tk
  rw [show N ++ (l1 ++ l2) = (N ++ l1) ++ l2 by rw [List.append_assoc]]
  generalize N ++ l1 = X
  by_cases h : X.length ≤ 64
  · rw [List.take_of_length_le h]
  · have h1 : (X.take 64).length = 64 := by rw [List.length_take]; omega
    rw [List.take_append_of_le_length (l₁ := X.take 64) (by omega), List.take_append_of_le_length (l₁ := X) (by omega), List.take_take]
    simp
theorem tk_one {N : List (List Nat)} {x : List Nat} (h : N.length < 64) : tk N [x] = N ++ [x] := by
  unfold tk
  rw [List.take_of_length_le (by simp; omega)]
abbrev nX (a j : Nat) : Prop := a = 389 ∧ j = 22
abbrev nA (a : Nat) : Prop := a = 404
theorem PrIs_k {S S' : ST} {a b : Nat} {ps : List Nat} (h : PrIs S a b ps) (h1 : ∀ i, i < 3 → S'.2.1 a (b + i) = S.2.1 a (b + i)) : PrIs S' a b ps := ⟨h.1, fun i hi => (h1 i (by have := h.1; omega)).trans (h.2.1 i hi), fun i g1 g2 => (h1 i g2).trans (h.2.2 i g1 g2)⟩
/-- three ints that a program is -/
def P3 (ps : List Nat) (x y z : Int32) : Prop := (∃ a, ps = [a] ∧ x = nI a ∧ y = -1 ∧ z = -1) ∨ (∃ a b, ps = [a, b] ∧ x = nI a ∧ y = nI b ∧ z = -1) ∨ ∃ a b c, ps = [a, b, c] ∧ x = nI a ∧ y = nI b ∧ z = nI c
theorem P3_Pr {S : ST} {a b : Nat} {ps : List Nat} {x y z : Int32} (h : P3 ps x y z) (h0 : S.2.1 a b = x) (h1 : S.2.1 a (b + 1) = y) (h2 : S.2.1 a (b + 2) = z) : PrIs S a b ps := by
  rcases h with ⟨p, rfl, rfl, rfl, rfl⟩ | ⟨p, q, rfl, rfl, rfl, rfl⟩ | ⟨p, q, r, rfl, rfl, rfl, rfl⟩
  · refine ⟨by simp, fun i hi => ?_, fun i g1 g2 => ?_⟩
    · rw [show i = 0 by simp at hi; omega]; exact h0
    · simp at g1
      rcases (show i = 1 ∨ i = 2 by omega) with rfl | rfl
      · exact h1
      · exact h2
  · refine ⟨by simp, fun i hi => ?_, fun i g1 g2 => ?_⟩
    · simp at hi
      rcases (show i = 0 ∨ i = 1 by omega) with rfl | rfl
      · exact h0
      · exact h1
    · simp at g1
      rw [show i = 2 by omega]; exact h2
  · refine ⟨by simp, fun i hi => ?_, fun i g1 g2 => ?_⟩
    · simp at hi
      rcases (show i = 0 ∨ i = 1 ∨ i = 2 by omega) with rfl | rfl | rfl
      · exact h0
      · exact h1
      · exact h2
    · simp at g1; omega
section M26
variable {sc : SC} {S : ST} {Q : Option AV → HM → Prop}
set_option maxRecDepth 100000 in
set_option maxHeartbeats 4000000 in
theorem sX10_noteNear {N : List (List Nat)} {ps : List Nat} {x y z : Int32} (hN : NeIs S N) (hp : P3 ps x y z) (h : ∀ S', Fr nX nA S S' → NeIs S' (tk N [ps]) → Q none (mk S')) : CT sc mX10_noteNear [aR 389, aI x, aI y, aI z] (mk S) Q := by
  refine S_of (by decide) rfl ?_
  show G sc mX10_noteNear 0 [some (aR 389), some (aI x), some (aI y), some (aI z)] [] (mk S) Q
  have hl := hN.1
  refine G_aload_n (pc := 0) dX10_noteNear_0 rfl rfl ?_
  refine S_getI (pc := 1) dX10_noteNear_1 fX10_216 rfl (by first | rfl | assumption) rfl ?_
  rw [hN.2.1]
  refine G_bipush (pc := 4) (v := nI 64) dX10_noteNear_4 (by decide) ?_
  refine N_icmp_ge (pc := 6) (tgt := 59) dX10_noteNear_6 (by decide) (by omega) (fun c6 => ?_) (fun c6 => ?_)
  · skip
    have e : N.length = 64 := by omega
    refine S_vret (pc := 59) dX10_noteNear_59 rfl ?_
    first
      | exact h S Fr.rf (by rw [tk_full e]; exact hN)
      | (refine h _ (Fr.tr (Fr.tr (Fr.tr (Fr.upI rfl) (Fr.upI rfl)) (Fr.upI rfl)) (Fr.upX ⟨rfl, rfl⟩)) ?_
         rw [tk_one (by omega)]
         refine ⟨by simp; omega, by rw [upX_s]; simp, fun i hi => ?_⟩
         show PrIs (upI (upI (upI S 404 (3 * N.length) x) 404 (3 * N.length + 1) y) 404 (3 * N.length + 2) z) 404 (3 * i) _
         by_cases hi2 : i = N.length
         · subst hi2
           rw [show (N ++ [ps]).getD N.length [] = ps by simp]
           refine P3_Pr hp ?_ ?_ ?_
           · rw [upI_n (by omega), upI_n (by omega), upI_s]
           · rw [upI_n (by omega), upI_s]
           · rw [upI_s]
         · simp only [List.length_append, List.length_cons, List.length_nil] at hi
           rw [show (N ++ [ps]).getD i [] = N.getD i [] by rw [List.getD_eq_getElem?_getD, List.getD_eq_getElem?_getD, List.getElem?_append_left (by omega)]]
           exact PrIs_k (hN.2.2 i (by omega)) (fun j hj => by rw [upI_n (by omega), upI_n (by omega), upI_n (by omega)]))
  · skip
    refine G_aload_n (pc := 9) dX10_noteNear_9 rfl rfl ?_
    refine S_getR (pc := 10) (b := 404) dX10_noteNear_10 fX10_53 rfl rfl (by first | rfl | assumption) rfl rfl ?_
    refine G_iconst (pc := 13) (v := nI 3) dX10_noteNear_13 (by decide) ?_
    refine G_aload_n (pc := 14) dX10_noteNear_14 rfl rfl ?_
    refine S_getI (pc := 15) dX10_noteNear_15 fX10_216 rfl (by first | rfl | assumption) rfl ?_
    rw [hN.2.1]
    refine N_imul (pc := 18) dX10_noteNear_18 ?_
    refine G_iload_n (pc := 19) dX10_noteNear_19 rfl rfl ?_
    refine N_iast (pc := 20) dX10_noteNear_20 (by first | rfl | assumption) (by first | rfl | assumption) (by omega) ?_
    refine G_aload_n (pc := 21) dX10_noteNear_21 rfl rfl ?_
    refine S_getR (pc := 22) (b := 404) dX10_noteNear_22 fX10_53 rfl rfl (by first | rfl | assumption) rfl rfl ?_
    refine G_iconst (pc := 25) (v := nI 3) dX10_noteNear_25 (by decide) ?_
    refine G_aload_n (pc := 26) dX10_noteNear_26 rfl rfl ?_
    refine S_getI (pc := 27) dX10_noteNear_27 fX10_216 rfl (by first | rfl | assumption) rfl ?_
    rw [show (upI S 404 (3 * N.length) x).1 389 22 = nI N.length from hN.2.1]
    refine N_imul (pc := 30) dX10_noteNear_30 ?_
    refine G_iconst (pc := 31) (v := nI 1) dX10_noteNear_31 (by decide) ?_
    refine N_iadd (pc := 32) dX10_noteNear_32 ?_
    refine G_iload_n (pc := 33) dX10_noteNear_33 rfl rfl ?_
    refine N_iast (pc := 34) dX10_noteNear_34 (by first | rfl | assumption) (by first | rfl | assumption) (by omega) ?_
    refine G_aload_n (pc := 35) dX10_noteNear_35 rfl rfl ?_
    refine S_getR (pc := 36) (b := 404) dX10_noteNear_36 fX10_53 rfl rfl (by first | rfl | assumption) rfl rfl ?_
    refine G_iconst (pc := 39) (v := nI 3) dX10_noteNear_39 (by decide) ?_
    refine G_aload_n (pc := 40) dX10_noteNear_40 rfl rfl ?_
    refine S_getI (pc := 41) dX10_noteNear_41 fX10_216 rfl (by first | rfl | assumption) rfl ?_
    rw [show (upI (upI S 404 (3 * N.length) x) 404 (3 * N.length + 1) y).1 389 22 = nI N.length from hN.2.1]
    refine N_imul (pc := 44) dX10_noteNear_44 ?_
    refine G_iconst (pc := 45) (v := nI 2) dX10_noteNear_45 (by decide) ?_
    refine N_iadd (pc := 46) dX10_noteNear_46 ?_
    refine G_iload_n (pc := 47) dX10_noteNear_47 rfl rfl ?_
    refine N_iast (pc := 48) dX10_noteNear_48 (by first | rfl | assumption) (by first | rfl | assumption) (by omega) ?_
    refine G_aload_n (pc := 49) dX10_noteNear_49 rfl rfl ?_
    refine G_dup (pc := 50) dX10_noteNear_50 rfl ?_
    refine S_getI (pc := 51) dX10_noteNear_51 fX10_216 rfl (by first | rfl | assumption) rfl ?_
    rw [show (upI (upI (upI S 404 (3 * N.length) x) 404 (3 * N.length + 1) y) 404 (3 * N.length + 2) z).1 389 22 = nI N.length from hN.2.1]
    refine G_iconst (pc := 54) (v := nI 1) dX10_noteNear_54 (by decide) ?_
    refine N_iadd (pc := 55) dX10_noteNear_55 ?_
    refine S_putI (pc := 56) dX10_noteNear_56 fX10_216 (by decide) rfl (by first | rfl | assumption) rfl ?_
    refine S_vret (pc := 59) dX10_noteNear_59 rfl ?_
    first
      | exact h S Fr.rf (by rw [tk_full e]; exact hN)
      | (refine h _ (Fr.tr (Fr.tr (Fr.tr (Fr.upI rfl) (Fr.upI rfl)) (Fr.upI rfl)) (Fr.upX ⟨rfl, rfl⟩)) ?_
         rw [tk_one (by omega)]
         refine ⟨by simp; omega, by rw [upX_s]; simp, fun i hi => ?_⟩
         show PrIs (upI (upI (upI S 404 (3 * N.length) x) 404 (3 * N.length + 1) y) 404 (3 * N.length + 2) z) 404 (3 * i) _
         by_cases hi2 : i = N.length
         · subst hi2
           rw [show (N ++ [ps]).getD N.length [] = ps by simp]
           refine P3_Pr hp ?_ ?_ ?_
           · rw [upI_n (by omega), upI_n (by omega), upI_s]
           · rw [upI_n (by omega), upI_s]
           · rw [upI_s]
         · simp only [List.length_append, List.length_cons, List.length_nil] at hi
           rw [show (N ++ [ps]).getD i [] = N.getD i [] by rw [List.getD_eq_getElem?_getD, List.getD_eq_getElem?_getD, List.getElem?_append_left (by omega)]]
           exact PrIs_k (hN.2.2 i (by omega)) (fun j hj => by rw [upI_n (by omega), upI_n (by omega), upI_n (by omega)]))
/-- the programs that begin with fp (and mid) and close with a piece of B that begins at left, of the cost c -/
def wiF (B : List (Nat × Nat)) (fp : Nat) (mid : Option Nat) (left : Nat) (c : Int) : Nat → Nat → List (List Nat)
  | 0, _ => []
  | d + 1, b => (if (B.getD b (0, 0)).2 = left ∧ (costN (B.getD b (0, 0)).1 : Int) = c then [match mid with
    | none => [fp, (B.getD b (0, 0)).1]
    | some m => [fp, m, (B.getD b (0, 0)).1]] else []) ++ wiF B fp mid left c d (b + 1)
def wiO (B : List (Nat × Nat)) (fp : Nat) (mid : Option Nat) (left : Option Nat) (c : Int) : List (List Nat) := match left with
  | some x => wiF B fp mid x c B.length 0
  | none => []
theorem wiF_none {B : List (Nat × Nat)} {fp : Nat} {mid : Option Nat} {left : Nat} {c : Int} (h : cntB B left = 0) : ∀ d b, b + d ≤ B.length → wiF B fp mid left c d b = []
  | 0, _, _ => rfl
  | d + 1, b, hb => by
    have h1 : ¬ (B.getD b (0, 0)).2 = left := by
      intro e
      unfold cntB at h
      rw [List.length_eq_zero_iff, List.filter_eq_nil_iff] at h
      refine h (B.getD b (0, 0)) ?_ (by simp only [e, beq_self_eq_true])
      rw [List.getD_eq_getElem?_getD, List.getElem?_eq_getElem (show b < B.length by omega)]
      exact List.getElem_mem _
    unfold wiF
    rw [if_neg (fun q => h1 q.1), wiF_none h d (b + 1) (by omega)]
    rfl
def midI (mid : Option Nat) : Int32 := match mid with
  | none => -1
  | some m => nI m
set_option maxRecDepth 100000 in
set_option maxHeartbeats 4000000 in
theorem noteWith_lp {S0 : ST} {F B : List (Nat × Nat)} {f left : Nat} {mid : Option Nat} {c : Int32} (hF : FrIs S0 F) (hf : f < F.length) (hFl : F.length ≤ 4803) (hB : BhL S0 B) (hBl : B.length ≤ 4803) (hl : left < 65536) (hpc : ∀ i, i < B.length → (B.getD i (0, 0)).1 < 67108864 ∧ (B.getD i (0, 0)).2 < 65536) (hfp : (F.getD f (0, 0)).1 < 67108864) (hmid : ∀ m, mid = some m → m < 67108864) :
    ∀ (d b : Nat) (S : ST) (N : List (List Nat)), b + d = B.length → Fr nX nA S0 S → NeIs S N → (∀ S', Fr nX nA S0 S' → NeIs S' (tk N (wiF B (F.getD f (0, 0)).1 mid left c.toInt d b)) → Q none (mk S')) →
      G sc mX10_noteWith 17 [some (aR 389), some (aI (nI f)), some (aI (midI mid)), some (aI (nI left)), some (aI c), some (aI (nI b))] [] (mk S) Q := by
  intro d
  induction d with
  | zero =>
    intro b S N hb hFr hN h
    have hBS : S.1 389 18 = nI B.length := (hFr.1 389 18 (by omega)).trans hB.1
    refine G_iload (pc := 17) dX10_noteWith_17 rfl ?_
    refine G_aload_n (pc := 19) dX10_noteWith_19 rfl rfl ?_
    refine S_getI (pc := 20) dX10_noteWith_20 fX10_178 rfl (by first | rfl | assumption) rfl ?_
    rw [hBS]
    refine N_icmp_ge (pc := 23) (tgt := 110) dX10_noteWith_23 (by decide) (by omega) (fun c23 => ?_) (fun c23 => absurd c23 (by omega))
    refine S_vret (pc := 110) dX10_noteWith_110 rfl ?_
    exact h S hFr (by rw [show wiF B (F.getD f (0, 0)).1 mid left c.toInt 0 b = [] from rfl, tk_nil hN.1]; exact hN)
  | succ d ih =>
    intro b S N hb hFr hN h
    have hBS : S.1 389 18 = nI B.length := (hFr.1 389 18 (by omega)).trans hB.1
    have hb1 : S.2.1 401 b = nI (B.getD b (0, 0)).1 := (hFr.2.1 401 (by omega) b).trans (hB.2 b (by omega)).1
    have hb2 : S.2.1 402 b = nI (B.getD b (0, 0)).2 := (hFr.2.1 402 (by omega) b).trans (hB.2 b (by omega)).2
    have hf1 : S.2.1 399 f = nI (F.getD f (0, 0)).1 := (hFr.2.1 399 (by omega) f).trans (hF.2 f hf).1
    obtain ⟨p1, p2⟩ := hpc b (by omega)
    have hNl := hN.1
    have e0 : wiF B (F.getD f (0, 0)).1 mid left c.toInt (d + 1) b = (if (B.getD b (0, 0)).2 = left ∧ (costN (B.getD b (0, 0)).1 : Int) = c.toInt then [match mid with
      | none => [(F.getD f (0, 0)).1, (B.getD b (0, 0)).1]
      | some m => [(F.getD f (0, 0)).1, m, (B.getD b (0, 0)).1]] else []) ++ wiF B (F.getD f (0, 0)).1 mid left c.toInt d (b + 1) := rfl
    have hcc : costN (B.getD b (0, 0)).1 < 100 := by unfold costN; split <;> (try split) <;> omega
    by_cases hN64 : N.length = 64
    · skip
      refine G_iload (pc := 17) dX10_noteWith_17 rfl ?_
      refine G_aload_n (pc := 19) dX10_noteWith_19 rfl rfl ?_
      refine S_getI (pc := 20) dX10_noteWith_20 fX10_178 rfl (by first | rfl | assumption) rfl ?_
      rw [hBS]
      refine N_icmp_ge (pc := 23) (tgt := 110) dX10_noteWith_23 (by decide) (by omega) (fun c23 => absurd c23 (by omega)) (fun c23 => ?_)
      refine G_aload_n (pc := 26) dX10_noteWith_26 rfl rfl ?_
      refine S_getI (pc := 27) dX10_noteWith_27 fX10_216 rfl (by first | rfl | assumption) rfl ?_
      rw [hN.2.1]
      refine G_bipush (pc := 30) (v := nI 64) dX10_noteWith_30 (by decide) ?_
      refine N_icmp_ge (pc := 32) (tgt := 110) dX10_noteWith_32 (by decide) (by omega) (fun c32 => ?_) (fun c32 => absurd c32 (by omega))
      refine S_vret (pc := 110) dX10_noteWith_110 rfl ?_
      exact h S hFr (by rw [tk_full hN64]; exact hN)
    · by_cases hc : (B.getD b (0, 0)).2 = left ∧ (costN (B.getD b (0, 0)).1 : Int) = c.toInt
      · rw [if_pos hc] at e0
        rw [e0, ← tk_tk] at h
        cases mid with
        | none =>
          refine G_iload (pc := 17) dX10_noteWith_17 rfl ?_
          refine G_aload_n (pc := 19) dX10_noteWith_19 rfl rfl ?_
          refine S_getI (pc := 20) dX10_noteWith_20 fX10_178 rfl (by first | rfl | assumption) rfl ?_
          rw [hBS]
          refine N_icmp_ge (pc := 23) (tgt := 110) dX10_noteWith_23 (by decide) (by omega) (fun c23 => absurd c23 (by omega)) (fun c23 => ?_)
          refine G_aload_n (pc := 26) dX10_noteWith_26 rfl rfl ?_
          refine S_getI (pc := 27) dX10_noteWith_27 fX10_216 rfl (by first | rfl | assumption) rfl ?_
          rw [hN.2.1]
          refine G_bipush (pc := 30) (v := nI 64) dX10_noteWith_30 (by decide) ?_
          refine N_icmp_ge (pc := 32) (tgt := 110) dX10_noteWith_32 (by decide) (by omega) (fun c32 => absurd c32 (by omega)) (fun c32 => ?_)
          refine G_aload_n (pc := 35) dX10_noteWith_35 rfl rfl ?_
          refine S_getR (pc := 36) (b := 402) dX10_noteWith_36 fX10_46 rfl rfl (by first | rfl | assumption) rfl rfl ?_
          refine G_iload (pc := 39) dX10_noteWith_39 rfl ?_
          refine N_iald (pc := 41) dX10_noteWith_41 (by first | rfl | assumption) (by first | rfl | assumption) (by omega) ?_
          rw [hb2]
          refine G_iload_n (pc := 42) dX10_noteWith_42 rfl rfl ?_
          refine N_icmp_ne (pc := 43) (tgt := 104) dX10_noteWith_43 (by decide) (by omega) (fun c43 => absurd c43 (by omega)) (fun c43 => ?_)
          refine G_aload_n (pc := 46) dX10_noteWith_46 rfl rfl ?_
          refine S_getR (pc := 47) (b := 401) dX10_noteWith_47 fX10_43 rfl rfl (by first | rfl | assumption) rfl rfl ?_
          refine G_iload (pc := 50) dX10_noteWith_50 rfl ?_
          refine N_iald (pc := 52) dX10_noteWith_52 (by first | rfl | assumption) (by first | rfl | assumption) (by omega) ?_
          rw [hb1]
          refine S_callS (av := [_]) (pc := 53) (z := mX10_costOf) dX10_noteWith_53 zX10_costOf lX10_noteWith_219 rfl (sX10_costOf (by omega) ⟨_, rfl, ?_⟩)
          refine G_iload (pc := 56) dX10_noteWith_56 rfl ?_
          refine T_icmp_ne (pc := 58) (tgt := 104) dX10_noteWith_58 (by decide) (fun c58 => absurd c58 (by rw [nIt (by omega)]; omega)) (fun c58 => ?_)
          refine G_iload_n (pc := 61) dX10_noteWith_61 rfl rfl ?_
          refine T_if_ge (pc := 62) (tgt := 86) dX10_noteWith_62 (by decide) (fun c62 => absurd c62 (by decide)) (fun c62 => ?_)
          refine G_aload_n (pc := 65) dX10_noteWith_65 rfl rfl ?_
          refine G_aload_n (pc := 66) dX10_noteWith_66 rfl rfl ?_
          refine S_getR (pc := 67) (b := 399) dX10_noteWith_67 fX10_37 rfl rfl (by first | rfl | assumption) rfl rfl ?_
          refine G_iload_n (pc := 70) dX10_noteWith_70 rfl rfl ?_
          refine N_iald (pc := 71) dX10_noteWith_71 (by first | rfl | assumption) (by first | rfl | assumption) (by omega) ?_
          rw [hf1]
          refine G_aload_n (pc := 72) dX10_noteWith_72 rfl rfl ?_
          refine S_getR (pc := 73) (b := 401) dX10_noteWith_73 fX10_43 rfl rfl (by first | rfl | assumption) rfl rfl ?_
          refine G_iload (pc := 76) dX10_noteWith_76 rfl ?_
          refine N_iald (pc := 78) dX10_noteWith_78 (by first | rfl | assumption) (by first | rfl | assumption) (by omega) ?_
          rw [hb1]
          refine G_iconst (pc := 79) (v := (-1)) dX10_noteWith_79 (by decide) ?_
          refine S_callV (av := [_, _, _]) (pc := 80) (z := mX10_noteNear) (ci := 9) dX10_noteWith_80 zX10_noteNear lX10_noteWith_222 rfl (by first | rfl | assumption) rfl rfl (sX10_noteNear (ps := [(F.getD f (0, 0)).1, (B.getD b (0, 0)).1]) hN (Or.inr (Or.inl ⟨_, _, rfl, rfl, rfl, rfl⟩)) (fun S2 g1 g2 => ⟨_, rfl, ?_⟩))
          refine G_goto (pc := 83) (tgt := 104) dX10_noteWith_83 (by decide) ?_
          refine N_iinc (pc := 104) dX10_noteWith_104 rfl (by decide) rfl ?_
          refine G_goto (pc := 107) (tgt := 17) dX10_noteWith_107 (by decide) ?_
          exact ih (b + 1) S2 _ (by omega) (hFr.tr g1) g2 h
        | some m =>
          have hm := hmid m rfl
          show G sc mX10_noteWith 17 [some (aR 389), some (aI (nI f)), some (aI (nI m)), some (aI (nI left)), some (aI c), some (aI (nI b))] [] (mk S) Q
          refine G_iload (pc := 17) dX10_noteWith_17 rfl ?_
          refine G_aload_n (pc := 19) dX10_noteWith_19 rfl rfl ?_
          refine S_getI (pc := 20) dX10_noteWith_20 fX10_178 rfl (by first | rfl | assumption) rfl ?_
          rw [hBS]
          refine N_icmp_ge (pc := 23) (tgt := 110) dX10_noteWith_23 (by decide) (by omega) (fun c23 => absurd c23 (by omega)) (fun c23 => ?_)
          refine G_aload_n (pc := 26) dX10_noteWith_26 rfl rfl ?_
          refine S_getI (pc := 27) dX10_noteWith_27 fX10_216 rfl (by first | rfl | assumption) rfl ?_
          rw [hN.2.1]
          refine G_bipush (pc := 30) (v := nI 64) dX10_noteWith_30 (by decide) ?_
          refine N_icmp_ge (pc := 32) (tgt := 110) dX10_noteWith_32 (by decide) (by omega) (fun c32 => absurd c32 (by omega)) (fun c32 => ?_)
          refine G_aload_n (pc := 35) dX10_noteWith_35 rfl rfl ?_
          refine S_getR (pc := 36) (b := 402) dX10_noteWith_36 fX10_46 rfl rfl (by first | rfl | assumption) rfl rfl ?_
          refine G_iload (pc := 39) dX10_noteWith_39 rfl ?_
          refine N_iald (pc := 41) dX10_noteWith_41 (by first | rfl | assumption) (by first | rfl | assumption) (by omega) ?_
          rw [hb2]
          refine G_iload_n (pc := 42) dX10_noteWith_42 rfl rfl ?_
          refine N_icmp_ne (pc := 43) (tgt := 104) dX10_noteWith_43 (by decide) (by omega) (fun c43 => absurd c43 (by omega)) (fun c43 => ?_)
          refine G_aload_n (pc := 46) dX10_noteWith_46 rfl rfl ?_
          refine S_getR (pc := 47) (b := 401) dX10_noteWith_47 fX10_43 rfl rfl (by first | rfl | assumption) rfl rfl ?_
          refine G_iload (pc := 50) dX10_noteWith_50 rfl ?_
          refine N_iald (pc := 52) dX10_noteWith_52 (by first | rfl | assumption) (by first | rfl | assumption) (by omega) ?_
          rw [hb1]
          refine S_callS (av := [_]) (pc := 53) (z := mX10_costOf) dX10_noteWith_53 zX10_costOf lX10_noteWith_219 rfl (sX10_costOf (by omega) ⟨_, rfl, ?_⟩)
          refine G_iload (pc := 56) dX10_noteWith_56 rfl ?_
          refine T_icmp_ne (pc := 58) (tgt := 104) dX10_noteWith_58 (by decide) (fun c58 => absurd c58 (by rw [nIt (by omega)]; omega)) (fun c58 => ?_)
          refine G_iload_n (pc := 61) dX10_noteWith_61 rfl rfl ?_
          refine N_if_ge (pc := 62) (tgt := 86) dX10_noteWith_62 (by decide) (by omega) ?_
          refine G_aload_n (pc := 86) dX10_noteWith_86 rfl rfl ?_
          refine G_aload_n (pc := 87) dX10_noteWith_87 rfl rfl ?_
          refine S_getR (pc := 88) (b := 399) dX10_noteWith_88 fX10_37 rfl rfl (by first | rfl | assumption) rfl rfl ?_
          refine G_iload_n (pc := 91) dX10_noteWith_91 rfl rfl ?_
          refine N_iald (pc := 92) dX10_noteWith_92 (by first | rfl | assumption) (by first | rfl | assumption) (by omega) ?_
          rw [hf1]
          refine G_iload_n (pc := 93) dX10_noteWith_93 rfl rfl ?_
          refine G_aload_n (pc := 94) dX10_noteWith_94 rfl rfl ?_
          refine S_getR (pc := 95) (b := 401) dX10_noteWith_95 fX10_43 rfl rfl (by first | rfl | assumption) rfl rfl ?_
          refine G_iload (pc := 98) dX10_noteWith_98 rfl ?_
          refine N_iald (pc := 100) dX10_noteWith_100 (by first | rfl | assumption) (by first | rfl | assumption) (by omega) ?_
          rw [hb1]
          refine S_callV (av := [_, _, _]) (pc := 101) (z := mX10_noteNear) (ci := 9) dX10_noteWith_101 zX10_noteNear lX10_noteWith_222 rfl (by first | rfl | assumption) rfl rfl (sX10_noteNear (ps := [(F.getD f (0, 0)).1, m, (B.getD b (0, 0)).1]) hN (Or.inr (Or.inr ⟨_, _, _, rfl, rfl, rfl, rfl⟩)) (fun S2 g1 g2 => ⟨_, rfl, ?_⟩))
          refine N_iinc (pc := 104) dX10_noteWith_104 rfl (by decide) rfl ?_
          refine G_goto (pc := 107) (tgt := 17) dX10_noteWith_107 (by decide) ?_
          exact ih (b + 1) S2 _ (by omega) (hFr.tr g1) g2 h
      · rw [if_neg hc] at e0
        rw [e0, List.nil_append] at h
        refine G_iload (pc := 17) dX10_noteWith_17 rfl ?_
        refine G_aload_n (pc := 19) dX10_noteWith_19 rfl rfl ?_
        refine S_getI (pc := 20) dX10_noteWith_20 fX10_178 rfl (by first | rfl | assumption) rfl ?_
        rw [hBS]
        refine N_icmp_ge (pc := 23) (tgt := 110) dX10_noteWith_23 (by decide) (by omega) (fun c23 => absurd c23 (by omega)) (fun c23 => ?_)
        refine G_aload_n (pc := 26) dX10_noteWith_26 rfl rfl ?_
        refine S_getI (pc := 27) dX10_noteWith_27 fX10_216 rfl (by first | rfl | assumption) rfl ?_
        rw [hN.2.1]
        refine G_bipush (pc := 30) (v := nI 64) dX10_noteWith_30 (by decide) ?_
        refine N_icmp_ge (pc := 32) (tgt := 110) dX10_noteWith_32 (by decide) (by omega) (fun c32 => absurd c32 (by omega)) (fun c32 => ?_)
        refine G_aload_n (pc := 35) dX10_noteWith_35 rfl rfl ?_
        refine S_getR (pc := 36) (b := 402) dX10_noteWith_36 fX10_46 rfl rfl (by first | rfl | assumption) rfl rfl ?_
        refine G_iload (pc := 39) dX10_noteWith_39 rfl ?_
        refine N_iald (pc := 41) dX10_noteWith_41 (by first | rfl | assumption) (by first | rfl | assumption) (by omega) ?_
        rw [hb2]
        refine G_iload_n (pc := 42) dX10_noteWith_42 rfl rfl ?_
        refine N_icmp_ne (pc := 43) (tgt := 104) dX10_noteWith_43 (by decide) (by omega) (fun c43 => ?_) (fun c43 => ?_)
        · skip
          refine N_iinc (pc := 104) dX10_noteWith_104 rfl (by decide) rfl ?_
          refine G_goto (pc := 107) (tgt := 17) dX10_noteWith_107 (by decide) ?_
          exact ih (b + 1) S N (by omega) hFr hN h
        · skip
          refine G_aload_n (pc := 46) dX10_noteWith_46 rfl rfl ?_
          refine S_getR (pc := 47) (b := 401) dX10_noteWith_47 fX10_43 rfl rfl (by first | rfl | assumption) rfl rfl ?_
          refine G_iload (pc := 50) dX10_noteWith_50 rfl ?_
          refine N_iald (pc := 52) dX10_noteWith_52 (by first | rfl | assumption) (by first | rfl | assumption) (by omega) ?_
          rw [hb1]
          refine S_callS (av := [_]) (pc := 53) (z := mX10_costOf) dX10_noteWith_53 zX10_costOf lX10_noteWith_219 rfl (sX10_costOf (by omega) ⟨_, rfl, ?_⟩)
          refine G_iload (pc := 56) dX10_noteWith_56 rfl ?_
          refine T_icmp_ne (pc := 58) (tgt := 104) dX10_noteWith_58 (by decide) (fun c58 => ?_) (fun c58 => absurd c58 (by rw [nIt (by omega)]; omega))
          refine N_iinc (pc := 104) dX10_noteWith_104 rfl (by decide) rfl ?_
          refine G_goto (pc := 107) (tgt := 17) dX10_noteWith_107 (by decide) ?_
          exact ih (b + 1) S N (by omega) hFr hN h
set_option maxRecDepth 100000 in
set_option maxHeartbeats 4000000 in
theorem sX10_noteWith {F B : List (Nat × Nat)} {f : Nat} {left : Option Nat} {mid : Option Nat} {c : Int32} {N : List (List Nat)} (hF : FrIs S F) (hf : f < F.length) (hFl : F.length ≤ 4803) (hB : BhL S B) (hC : BhC S B) (hBl : B.length ≤ 4803) (hl : ∀ x, left = some x → x < 65536) (hpc : ∀ i, i < B.length → (B.getD i (0, 0)).1 < 67108864 ∧ (B.getD i (0, 0)).2 < 65536) (hfp : (F.getD f (0, 0)).1 < 67108864) (hmid : ∀ m, mid = some m → m < 67108864) (hN : NeIs S N)
    (h : ∀ S', Fr nX nA S S' → NeIs S' (tk N (wiO B (F.getD f (0, 0)).1 mid left c.toInt)) → Q none (mk S')) : CT sc mX10_noteWith [aR 389, aI (nI f), aI (midI mid), aI (oI left), aI c] (mk S) Q := by
  refine S_of (by decide) rfl ?_
  show G sc mX10_noteWith 0 [some (aR 389), some (aI (nI f)), some (aI (midI mid)), some (aI (oI left)), some (aI c), none] [] (mk S) Q
  cases left with
  | none =>
    refine G_iload_n (pc := 0) dX10_noteWith_0 rfl rfl ?_
    refine T_if_lt (pc := 1) (tgt := 13) dX10_noteWith_1 (by decide) (fun c1 => ?_) (fun c1 => absurd c1 (by decide))
    refine S_vret (pc := 13) dX10_noteWith_13 rfl ?_
    exact h S Fr.rf (by rw [show wiO B (F.getD f (0, 0)).1 mid none c.toInt = [] from rfl, tk_nil hN.1]; exact hN)
  | some x =>
    have hx := hl x rfl
    have hcm := cntB_le B x
    show G sc mX10_noteWith 0 [some (aR 389), some (aI (nI f)), some (aI (midI mid)), some (aI (nI x)), some (aI c), none] [] (mk S) Q
    refine G_iload_n (pc := 0) dX10_noteWith_0 rfl rfl ?_
    refine N_if_lt (pc := 1) (tgt := 13) dX10_noteWith_1 (by decide) (by omega) ?_
    refine G_aload_n (pc := 4) dX10_noteWith_4 rfl rfl ?_
    refine S_getR (pc := 5) (b := 403) dX10_noteWith_5 fX10_50 rfl rfl (by first | rfl | assumption) rfl rfl ?_
    refine G_iload_n (pc := 8) dX10_noteWith_8 rfl rfl ?_
    refine N_iald (pc := 9) dX10_noteWith_9 (by first | rfl | assumption) (by first | rfl | assumption) (by omega) ?_
    rw [hC x hx]
    refine N_if_ne (pc := 10) (tgt := 14) dX10_noteWith_10 (by decide) (by omega) (fun c10 => ?_) (fun c10 => ?_)
    · skip
      refine G_iconst (pc := 14) (v := nI 0) dX10_noteWith_14 (by decide) ?_
      refine G_istore (pc := 15) dX10_noteWith_15 (by decide) rfl ?_
      exact noteWith_lp hF hf hFl hB hBl hx hpc hfp hmid B.length 0 S N (by omega) Fr.rf hN h
    · skip
      refine S_vret (pc := 13) dX10_noteWith_13 rfl ?_
      exact h S Fr.rf (by
        rw [show wiO B (F.getD f (0, 0)).1 mid (some x) c.toInt = [] from wiF_none c10 B.length 0 (by omega), tk_nil hN.1]
        exact hN)
end M26
