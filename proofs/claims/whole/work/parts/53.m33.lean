/-! the model: shapes, odd -/
/-- the kinds of a line, one for each run -/
def shp (f : Nat → Int32) : Nat → List Nat
  | 0 => []
  | i + 1 => if i = 0 ∨ ¬ kindN (f i) = kindN (f (i - 1)) then shp f i ++ [kindN (f i)] else shp f i
theorem shp_len (f : Nat → Int32) : ∀ i, (shp f i).length ≤ i
  | 0 => Nat.le_refl _
  | i + 1 => by
    have := shp_len f i
    unfold shp
    split
    · simp; omega
    · omega
theorem shp_last (f : Nat → Int32) : ∀ i, 0 < (shp f (i + 1)).length ∧ (shp f (i + 1)).getD ((shp f (i + 1)).length - 1) 0 = kindN (f i)
  | 0 => by simp [shp]
  | i + 1 => by
    have h1 := shp_last f i
    have e : shp f (i + 2) = if i + 1 = 0 ∨ ¬ kindN (f (i + 1)) = kindN (f i) then shp f (i + 1) ++ [kindN (f (i + 1))] else shp f (i + 1) := rfl
    rw [e]
    split
    · simp
    · rename_i q
      have q2 : kindN (f (i + 1)) = kindN (f i) := by
        by_cases z : kindN (f (i + 1)) = kindN (f i)
        · exact z
        · exact absurd (Or.inr z) q
      rw [q2]
      exact h1
theorem shp_ext {f g : Nat → Int32} : ∀ n, (∀ i, i < n → f i = g i) → shp f n = shp g n
  | 0, _ => rfl
  | n + 1, h => by
    unfold shp
    rw [shp_ext n (fun i hi => h i (by omega)), h n (by omega), h (n - 1) (by omega)]
theorem kindN_lt (c : Int32) : kindN c ≤ 4 := by
  unfold kindN
  repeat' split
  all_goals omega
def ShpIs (S : ST) (l : List Nat) : Prop := S.1 389 27 = nI l.length ∧ ∀ k, k < l.length → S.2.1 407 k = nI (l.getD k 0)
abbrev sX (a j : Nat) : Prop := a = 389 ∧ j = 27
abbrev sA (a : Nat) : Prop := a = 407
theorem ShpIs.push {S : ST} {l : List Nat} {x : Nat} (h : ShpIs S l) : ShpIs (upX (upI S 407 l.length (nI x)) 389 27 (nI (l.length + 1))) (l ++ [x]) := by
  refine ⟨by rw [upX_s]; simp, fun i hi => ?_⟩
  show (upI S 407 l.length (nI x)).2.1 407 i = _
  by_cases h1 : i = l.length
  · subst h1
    rw [upI_s]
    simp
  · rw [upI_n (fun q => h1 q.2)]
    simp only [List.length_append, List.length_cons, List.length_nil] at hi
    rw [h.2 i (by omega), List.getD_eq_getElem?_getD, List.getD_eq_getElem?_getD, List.getElem?_append_left (by omega)]
theorem shp_at (f : Nat → Int32) : ∀ i k, (shp f i).getD k 0 ≤ 4
  | 0, k => by simp [shp]
  | i + 1, k => by
    have h1 := shp_at f i k
    unfold shp
    split
    · rw [List.getD_eq_getElem?_getD] at h1 ⊢
      by_cases h2 : k < (shp f i).length
      · rw [List.getElem?_append_left h2]; exact h1
      · rw [List.getElem?_append_right (by omega)]
        by_cases h3 : k = (shp f i).length
        · subst h3; simp; exact kindN_lt _
        · rw [List.getElem?_eq_none (by simp; omega)]; simp
    · exact h1
/-- a begins b -/
def preB (a b : List Nat) : Bool := decide (b.take a.length = a)
theorem preB_push {a b : List Nat} {x : Nat} : preB (a ++ [x]) b = (preB a b && decide (a.length < b.length) && decide (b.getD a.length 0 = x)) := by
  unfold preB
  rw [Bool.eq_iff_iff]
  simp only [Bool.and_eq_true, decide_eq_true_iff, List.length_append, List.length_cons, List.length_nil]
  rw [List.take_add_one]
  by_cases h : a.length < b.length
  · rw [List.getElem?_eq_getElem h, List.getD_eq_getElem?_getD, List.getElem?_eq_getElem h]
    simp only [Option.toList_some, Option.getD_some]
    constructor
    · intro e
      have e1 := List.append_inj' e rfl
      exact ⟨⟨e1.1, h⟩, by simpa using e1.2⟩
    · rintro ⟨⟨e1, _⟩, e2⟩
      rw [e1, e2]
  · constructor
    · intro e
      have e1 := congrArg List.length e
      rw [List.getElem?_eq_none (by omega)] at e1
      simp at e1
      omega
    · rintro ⟨⟨_, e1⟩, _⟩
      exact absurd e1 h
theorem preB_eq {a b : List Nat} : (preB a b && decide (a.length = b.length)) = decide (a = b) := by
  unfold preB
  rw [Bool.eq_iff_iff]
  simp only [Bool.and_eq_true, decide_eq_true_iff]
  constructor
  · rintro ⟨h1, h2⟩
    rw [h2, List.take_length] at h1
    exact h1.symm
  · rintro rfl
    exact ⟨List.take_length, rfl⟩
section M33
variable {sc : SC} {S : ST} {Q : Option AV → HM → Prop}
set_option maxRecDepth 100000 in
set_option maxHeartbeats 4000000 in
theorem findShape_lp {n : Nat} {f : Nat → Int32} (hn : n ≤ 36) :
    ∀ (d i : Nat) (S : ST) (o5 : Option AV), i + d = n → (∀ j, S.2.1 397 j = f j) → ShpIs S (shp f i) → (∀ S', Fr sX sA S S' → ShpIs S' (shp f n) → Q none (mk S')) →
      G sc mX10_findShape 8 [some (aR 389), some (aR 397), some (aI (nI 0)), some (aI (nI n)), some (aI (nI i)), o5] [] (mk S) Q := by
  intro d
  induction d with
  | zero =>
    intro i S o5 hi hf hs h
    have e : i = n := by omega
    subst e
    refine G_iload (pc := 8) dX10_findShape_8 rfl ?_
    refine G_iload_n (pc := 10) dX10_findShape_10 rfl rfl ?_
    refine N_icmp_ge (pc := 11) (tgt := 75) dX10_findShape_11 (by decide) (by omega) (fun c11 => ?_) (fun c11 => absurd c11 (by omega))
    refine S_vret (pc := 75) dX10_findShape_75 rfl ?_
    exact h S Fr.rf hs
  | succ d ih =>
    intro i S o5 hi hf hs h
    have hl := shp_len f i
    have hk := kindN_lt (f i)
    have e0 : shp f (i + 1) = if i = 0 ∨ ¬ kindN (f i) = kindN (f (i - 1)) then shp f i ++ [kindN (f i)] else shp f i := rfl
    have hz : i = 0 ↔ (shp f i).length = 0 := by
      cases i with
      | zero => simp [shp]
      | succ i => have := (shp_last f i).1; omega
    have hsl : ¬ (shp f i).length = 0 → (shp f i).getD ((shp f i).length - 1) 0 = kindN (f (i - 1)) := by
      cases i with
      | zero => simp [shp]
      | succ i => intro _; exact (shp_last f i).2
    have hat := shp_at f i ((shp f i).length - 1)
    have K : shp f (i + 1) = shp f i ++ [kindN (f i)] → G sc mX10_findShape 48 [some (aR 389), some (aR 397), some (aI (nI 0)), some (aI (nI n)), some (aI (nI i)), some (aI (nI (kindN (f i))))] [] (mk S) Q := by
      intro e
      refine G_aload_n (pc := 48) dX10_findShape_48 rfl rfl ?_
      refine S_getR (pc := 49) (b := 407) dX10_findShape_49 fX10_62 rfl rfl (by first | rfl | assumption) rfl rfl ?_
      refine G_aload_n (pc := 52) dX10_findShape_52 rfl rfl ?_
      refine S_getI (pc := 53) dX10_findShape_53 fX10_256 rfl (by first | rfl | assumption) rfl ?_
      rw [hs.1]
      refine G_iload (pc := 56) dX10_findShape_56 rfl ?_
      refine N_iast (pc := 58) dX10_findShape_58 (by first | rfl | assumption) (by first | rfl | assumption) (by omega) ?_
      refine G_aload_n (pc := 59) dX10_findShape_59 rfl rfl ?_
      refine G_dup (pc := 60) dX10_findShape_60 rfl ?_
      refine S_getI (pc := 61) dX10_findShape_61 fX10_256 rfl (by first | rfl | assumption) rfl ?_
      rw [show (upI S 407 (shp f i).length (nI (kindN (f i)))).1 389 27 = nI (shp f i).length from hs.1]
      refine G_iconst (pc := 64) (v := nI 1) dX10_findShape_64 (by decide) ?_
      refine N_iadd (pc := 65) dX10_findShape_65 ?_
      refine S_putI (pc := 66) dX10_findShape_66 fX10_256 (by decide) rfl (by first | rfl | assumption) rfl ?_
      refine N_iinc (pc := 69) dX10_findShape_69 rfl (by decide) rfl ?_
      refine G_goto (pc := 72) (tgt := 8) dX10_findShape_72 (by decide) ?_
      refine ih (i + 1) _ _ (by omega) (fun j => ?_) (by rw [e]; exact hs.push) (fun S' g1 g2 => h S' (Fr.tr (Fr.tr (Fr.upI rfl) (Fr.upX ⟨rfl, rfl⟩)) g1) g2)
      show (upI S 407 (shp f i).length (nI (kindN (f i)))).2.1 397 j = f j
      rw [upI_n (by omega)]
      exact hf j
    refine G_iload (pc := 8) dX10_findShape_8 rfl ?_
    refine G_iload_n (pc := 10) dX10_findShape_10 rfl rfl ?_
    refine N_icmp_ge (pc := 11) (tgt := 75) dX10_findShape_11 (by decide) (by omega) (fun c11 => absurd c11 (by omega)) (fun c11 => ?_)
    refine G_aload_n (pc := 14) dX10_findShape_14 rfl rfl ?_
    refine G_iload_n (pc := 15) dX10_findShape_15 rfl rfl ?_
    refine G_iload (pc := 16) dX10_findShape_16 rfl ?_
    refine N_iadd (pc := 18) dX10_findShape_18 ?_
    refine N_iald (pc := 19) dX10_findShape_19 (by first | rfl | assumption) (by first | rfl | assumption) (by omega) ?_
    rw [show 0 + i = i by omega, hf i]
    refine S_callS (av := [_]) (pc := 20) (z := mX10_kindOf) dX10_findShape_20 zX10_kindOf lX10_findShape_259 rfl (sX10_kindOf ⟨_, rfl, ?_⟩)
    refine G_istore (pc := 23) dX10_findShape_23 (by decide) rfl ?_
    refine G_aload_n (pc := 25) dX10_findShape_25 rfl rfl ?_
    refine S_getI (pc := 26) dX10_findShape_26 fX10_256 rfl (by first | rfl | assumption) rfl ?_
    rw [hs.1]
    refine N_if_eq (pc := 29) (tgt := 48) dX10_findShape_29 (by decide) (by omega) (fun c29 => ?_) (fun c29 => ?_)
    · skip
      first
        | exact K (by rw [e0, if_pos (Or.inl (hz.mpr c29))])
        | exact K (by rw [e0, if_pos (Or.inr (fun q => c45 (by rw [hsl c29, q])))])
    · skip
      refine G_aload_n (pc := 32) dX10_findShape_32 rfl rfl ?_
      refine S_getR (pc := 33) (b := 407) dX10_findShape_33 fX10_62 rfl rfl (by first | rfl | assumption) rfl rfl ?_
      refine G_aload_n (pc := 36) dX10_findShape_36 rfl rfl ?_
      refine S_getI (pc := 37) dX10_findShape_37 fX10_256 rfl (by first | rfl | assumption) rfl ?_
      rw [hs.1]
      refine G_iconst (pc := 40) (v := nI 1) dX10_findShape_40 (by decide) ?_
      refine N_isub (pc := 41) dX10_findShape_41 (by omega) ?_
      refine N_iald (pc := 42) dX10_findShape_42 (by first | rfl | assumption) (by first | rfl | assumption) (by omega) ?_
      rw [hs.2 _ (by omega)]
      refine G_iload (pc := 43) dX10_findShape_43 rfl ?_
      refine N_icmp_eq (pc := 45) (tgt := 69) dX10_findShape_45 (by decide) (by omega) (fun c45 => ?_) (fun c45 => ?_)
      · skip
        skip
        refine N_iinc (pc := 69) dX10_findShape_69 rfl (by decide) rfl ?_
        refine G_goto (pc := 72) (tgt := 8) dX10_findShape_72 (by decide) ?_
        exact ih (i + 1) S _ (by omega) hf (by rw [e0, if_neg (by intro q; rcases q with q | q; exact c29 (hz.mp q); exact q (by rw [← hsl c29, c45]))]; exact hs) h
      · skip
        first
          | exact K (by rw [e0, if_pos (Or.inl (hz.mpr c29))])
          | exact K (by rw [e0, if_pos (Or.inr (fun q => c45 (by rw [hsl c29, q])))])
set_option maxRecDepth 100000 in
set_option maxHeartbeats 4000000 in
theorem sX10_findShape {l : List Int32} (hl : OutIs S l) (hn : l.length ≤ 36) (h : ∀ S', Fr sX sA S S' → ShpIs S' (shp (fun i => l.getD i 0) l.length) → Q none (mk S')) : CT sc mX10_findShape [aR 389, aR 397, aI (nI 0), aI (nI l.length)] (mk S) Q := by
  refine S_of (by decide) rfl ?_
  show G sc mX10_findShape 0 [some (aR 389), some (aR 397), some (aI (nI 0)), some (aI (nI l.length)), none, none] [] (mk S) Q
  have F0 : Fr sX sA S (upX S 389 27 (nI 0)) := Fr.upX ⟨rfl, rfl⟩
  have e1 : shp (fun i => l.getD i 0) l.length = shp (S.2.1 397) l.length := shp_ext _ (fun i hi => (hl.2 i hi).symm)
  refine G_aload_n (pc := 0) dX10_findShape_0 rfl rfl ?_
  refine G_iconst (pc := 1) (v := nI 0) dX10_findShape_1 (by decide) ?_
  refine S_putI (pc := 2) dX10_findShape_2 fX10_256 (by decide) rfl (by first | rfl | assumption) rfl ?_
  refine G_iconst (pc := 5) (v := nI 0) dX10_findShape_5 (by decide) ?_
  refine G_istore (pc := 6) dX10_findShape_6 (by decide) rfl ?_
  exact findShape_lp hn l.length 0 _ _ (by omega) (fun j => rfl) ⟨by rw [upX_s]; rfl, fun k hk => by simp [shp] at hk⟩ (fun S' g1 g2 => h S' (F0.tr g1) (by rw [e1]; exact g2))
set_option maxRecDepth 100000 in
set_option maxHeartbeats 4000000 in
theorem hasShape_lp {t n : Nat} {sh : List Nat} (ht : t < 12) (hes : S.2.1 394 t = nI n) (hn : n ≤ 35) (hs : ShpIs S sh) (hl : sh.length ≤ 36) (hsh : ∀ k, sh.getD k 0 ≤ 4) (h : Q (some (aI (bI (decide (shp (enB S t) n = sh))))) (mk S)) :
    ∀ (d i : Nat) (o5 : Option AV), i + d = n →
      G sc mX10_hasShape 7 [some (aR 389), some (aI (nI t)), some (aI (nI (shp (enB S t) i).length)), some (aI (bI (preB (shp (enB S t) i) sh))), some (aI (nI i)), o5] [] (mk S) Q := by
  intro d
  induction d with
  | zero =>
    intro i o5 hi
    have e : i = n := by omega
    subst e
    have hll := shp_len (enB S t) i
    rw [← preB_eq] at h
    refine G_iload (pc := 7) dX10_hasShape_7 rfl ?_
    refine G_aload_n (pc := 9) dX10_hasShape_9 rfl rfl ?_
    refine S_getR (pc := 10) (b := 394) dX10_hasShape_10 fX10_22 rfl rfl (by first | rfl | assumption) rfl rfl ?_
    refine G_iload_n (pc := 13) dX10_hasShape_13 rfl rfl ?_
    refine N_iald (pc := 14) dX10_hasShape_14 (by first | rfl | assumption) (by first | rfl | assumption) (by omega) ?_
    rw [hes]
    refine N_icmp_ge (pc := 15) (tgt := 100) dX10_hasShape_15 (by decide) (by omega) (fun c15 => ?_) (fun c15 => absurd c15 (by omega))
    refine G_iload_n (pc := 100) dX10_hasShape_100 rfl rfl ?_
    refine B_if_eq (pc := 101) (tgt := 116) dX10_hasShape_101 (by decide) (fun c101 => ?_) (fun c101 => ?_)
    · skip
      rw [c101] at h
      refine G_iconst (pc := 116) (v := nI 0) dX10_hasShape_116 (by decide) ?_
      refine S_zret (pc := 117) dX10_hasShape_117 rfl rfl ?_
      exact h
    · skip
      refine G_iload_n (pc := 104) dX10_hasShape_104 rfl rfl ?_
      refine G_aload_n (pc := 105) dX10_hasShape_105 rfl rfl ?_
      refine S_getI (pc := 106) dX10_hasShape_106 fX10_256 rfl (by first | rfl | assumption) rfl ?_
      rw [hs.1]
      refine N_icmp_ne (pc := 109) (tgt := 116) dX10_hasShape_109 (by decide) (by omega) (fun c109 => ?_) (fun c109 => ?_)
      · skip
        rw [c101, decide_eq_false c109] at h
        refine G_iconst (pc := 116) (v := nI 0) dX10_hasShape_116 (by decide) ?_
        refine S_zret (pc := 117) dX10_hasShape_117 rfl rfl ?_
        exact h
      · skip
        rw [c101, decide_eq_true c109] at h
        refine G_iconst (pc := 112) (v := nI 1) dX10_hasShape_112 (by decide) ?_
        refine G_goto (pc := 113) (tgt := 117) dX10_hasShape_113 (by decide) ?_
        refine S_zret (pc := 117) dX10_hasShape_117 rfl rfl ?_
        exact h
  | succ d ih =>
    intro i o5 hi
    have hll := shp_len (enB S t) i
    have hk := kindN_lt (enB S t i)
    have hk2 := kindN_lt (enB S t (i - 1))
    have hk3 := hsh (shp (enB S t) i).length
    have e0 : shp (enB S t) (i + 1) = if i = 0 ∨ ¬ kindN (enB S t i) = kindN (enB S t (i - 1)) then shp (enB S t) i ++ [kindN (enB S t i)] else shp (enB S t) i := rfl
    have K : ∀ (k : Nat) (b : Bool), k = (shp (enB S t) (i + 1)).length → b = preB (shp (enB S t) (i + 1)) sh → G sc mX10_hasShape 94 [some (aR 389), some (aI (nI t)), some (aI (nI k)), some (aI (bI b)), some (aI (nI i)), some (aI (nI (kindN (enB S t i))))] [] (mk S) Q := by
      intro k b h1 h2
      rw [h1, h2]
      refine N_iinc (pc := 94) dX10_hasShape_94 rfl (by decide) rfl ?_
      refine G_goto (pc := 97) (tgt := 7) dX10_hasShape_97 (by decide) ?_
      exact ih (i + 1) _ (by omega)
    have K2 : shp (enB S t) (i + 1) = shp (enB S t) i ++ [kindN (enB S t i)] → G sc mX10_hasShape 62 [some (aR 389), some (aI (nI t)), some (aI (nI (shp (enB S t) i).length)), some (aI (bI (preB (shp (enB S t) i) sh))), some (aI (nI i)), some (aI (nI (kindN (enB S t i))))] [] (mk S) Q := by
      intro e
      have e2 : preB (shp (enB S t) (i + 1)) sh = (preB (shp (enB S t) i) sh && decide ((shp (enB S t) i).length < sh.length) && decide (sh.getD (shp (enB S t) i).length 0 = kindN (enB S t i))) := by rw [e, preB_push]
      have e3 : (shp (enB S t) i).length + 1 = (shp (enB S t) (i + 1)).length := by rw [e]; simp
      have K := fun b => K _ b e3
      refine G_iload_n (pc := 62) dX10_hasShape_62 rfl rfl ?_
      refine B_if_eq (pc := 63) (tgt := 89) dX10_hasShape_63 (by decide) (fun c63 => ?_) (fun c63 => ?_)
      · skip
        rw [c63] at e2
        refine G_iconst (pc := 89) (v := nI 0) dX10_hasShape_89 (by decide) ?_
        refine G_istore_n (pc := 90) dX10_hasShape_90 rfl (by decide) rfl ?_
        refine N_iinc (pc := 91) dX10_hasShape_91 rfl (by decide) rfl ?_
        first | exact K false e2.symm | exact K true e2.symm
      · skip
        refine G_iload_n (pc := 66) dX10_hasShape_66 rfl rfl ?_
        refine G_aload_n (pc := 67) dX10_hasShape_67 rfl rfl ?_
        refine S_getI (pc := 68) dX10_hasShape_68 fX10_256 rfl (by first | rfl | assumption) rfl ?_
        rw [hs.1]
        refine N_icmp_ge (pc := 71) (tgt := 89) dX10_hasShape_71 (by decide) (by omega) (fun c71 => ?_) (fun c71 => ?_)
        · skip
          rw [c63, decide_eq_false (by omega)] at e2
          refine G_iconst (pc := 89) (v := nI 0) dX10_hasShape_89 (by decide) ?_
          refine G_istore_n (pc := 90) dX10_hasShape_90 rfl (by decide) rfl ?_
          refine N_iinc (pc := 91) dX10_hasShape_91 rfl (by decide) rfl ?_
          first | exact K false e2.symm | exact K true e2.symm
        · skip
          refine G_aload_n (pc := 74) dX10_hasShape_74 rfl rfl ?_
          refine S_getR (pc := 75) (b := 407) dX10_hasShape_75 fX10_62 rfl rfl (by first | rfl | assumption) rfl rfl ?_
          refine G_iload_n (pc := 78) dX10_hasShape_78 rfl rfl ?_
          refine N_iald (pc := 79) dX10_hasShape_79 (by first | rfl | assumption) (by first | rfl | assumption) (by omega) ?_
          rw [hs.2 _ (by omega)]
          refine G_iload (pc := 80) dX10_hasShape_80 rfl ?_
          refine N_icmp_ne (pc := 82) (tgt := 89) dX10_hasShape_82 (by decide) (by omega) (fun c82 => ?_) (fun c82 => ?_)
          · skip
            rw [c63, decide_eq_true (by omega), decide_eq_false c82] at e2
            refine G_iconst (pc := 89) (v := nI 0) dX10_hasShape_89 (by decide) ?_
            refine G_istore_n (pc := 90) dX10_hasShape_90 rfl (by decide) rfl ?_
            refine N_iinc (pc := 91) dX10_hasShape_91 rfl (by decide) rfl ?_
            first | exact K false e2.symm | exact K true e2.symm
          · skip
            rw [c63, decide_eq_true (by omega), decide_eq_true c82] at e2
            refine G_iconst (pc := 85) (v := nI 1) dX10_hasShape_85 (by decide) ?_
            refine G_goto (pc := 86) (tgt := 90) dX10_hasShape_86 (by decide) ?_
            refine G_istore_n (pc := 90) dX10_hasShape_90 rfl (by decide) rfl ?_
            refine N_iinc (pc := 91) dX10_hasShape_91 rfl (by decide) rfl ?_
            first | exact K false e2.symm | exact K true e2.symm
    refine G_iload (pc := 7) dX10_hasShape_7 rfl ?_
    refine G_aload_n (pc := 9) dX10_hasShape_9 rfl rfl ?_
    refine S_getR (pc := 10) (b := 394) dX10_hasShape_10 fX10_22 rfl rfl (by first | rfl | assumption) rfl rfl ?_
    refine G_iload_n (pc := 13) dX10_hasShape_13 rfl rfl ?_
    refine N_iald (pc := 14) dX10_hasShape_14 (by first | rfl | assumption) (by first | rfl | assumption) (by omega) ?_
    rw [hes]
    refine N_icmp_ge (pc := 15) (tgt := 100) dX10_hasShape_15 (by decide) (by omega) (fun c15 => absurd c15 (by omega)) (fun c15 => ?_)
    refine G_aload_n (pc := 18) dX10_hasShape_18 rfl rfl ?_
    refine S_getR (pc := 19) (b := 393) dX10_hasShape_19 fX10_19 rfl rfl (by first | rfl | assumption) rfl rfl ?_
    refine G_bipush (pc := 22) (v := nI 36) dX10_hasShape_22 (by decide) ?_
    refine G_iload_n (pc := 24) dX10_hasShape_24 rfl rfl ?_
    refine N_imul (pc := 25) dX10_hasShape_25 ?_
    refine G_iload (pc := 26) dX10_hasShape_26 rfl ?_
    refine N_iadd (pc := 28) dX10_hasShape_28 ?_
    refine N_iald (pc := 29) dX10_hasShape_29 (by first | rfl | assumption) (by first | rfl | assumption) (by omega) ?_
    refine S_callS (av := [_]) (pc := 30) (z := mX10_kindOf) dX10_hasShape_30 zX10_kindOf lX10_hasShape_259 rfl (sX10_kindOf ⟨_, rfl, ?_⟩)
    refine G_istore (pc := 33) dX10_hasShape_33 (by decide) rfl ?_
    refine G_iload (pc := 35) dX10_hasShape_35 rfl ?_
    refine N_if_eq (pc := 37) (tgt := 62) dX10_hasShape_37 (by decide) (by omega) (fun c37 => ?_) (fun c37 => ?_)
    · skip
      first
        | exact K2 (by rw [e0, if_pos (Or.inl c37)])
        | exact K2 (by rw [e0, if_pos (Or.inr c59)])
    · skip
      refine G_iload (pc := 40) dX10_hasShape_40 rfl ?_
      refine G_aload_n (pc := 42) dX10_hasShape_42 rfl rfl ?_
      refine S_getR (pc := 43) (b := 393) dX10_hasShape_43 fX10_19 rfl rfl (by first | rfl | assumption) rfl rfl ?_
      refine G_bipush (pc := 46) (v := nI 36) dX10_hasShape_46 (by decide) ?_
      refine G_iload_n (pc := 48) dX10_hasShape_48 rfl rfl ?_
      refine N_imul (pc := 49) dX10_hasShape_49 ?_
      refine G_iload (pc := 50) dX10_hasShape_50 rfl ?_
      refine N_iadd (pc := 52) dX10_hasShape_52 ?_
      refine G_iconst (pc := 53) (v := nI 1) dX10_hasShape_53 (by decide) ?_
      refine N_isub (pc := 54) dX10_hasShape_54 (by omega) ?_
      rw [show 36 * t + i - 1 = 36 * t + (i - 1) by omega]
      refine N_iald (pc := 55) dX10_hasShape_55 (by first | rfl | assumption) (by first | rfl | assumption) (by omega) ?_
      refine S_callS (av := [_]) (pc := 56) (z := mX10_kindOf) dX10_hasShape_56 zX10_kindOf lX10_hasShape_259 rfl (sX10_kindOf ⟨_, rfl, ?_⟩)
      refine N_icmp_eq (pc := 59) (tgt := 94) dX10_hasShape_59 (by decide) ⟨Nat.lt_of_le_of_lt hk (by decide), Nat.lt_of_le_of_lt hk2 (by decide)⟩ (fun c59 => ?_) (fun c59 => ?_)
      · skip
        exact K _ _ (by rw [e0, if_neg (by intro q; rcases q with q | q; exact c37 q; exact q c59)]) (by rw [e0, if_neg (by intro q; rcases q with q | q; exact c37 q; exact q c59)])
      · skip
        first
          | exact K2 (by rw [e0, if_pos (Or.inl c37)])
          | exact K2 (by rw [e0, if_pos (Or.inr c59)])
set_option maxRecDepth 100000 in
set_option maxHeartbeats 4000000 in
theorem sX10_hasShape {t n : Nat} {sh : List Nat} (ht : t < 12) (hes : S.2.1 394 t = nI n) (hn : n ≤ 35) (hs : ShpIs S sh) (hl : sh.length ≤ 36) (hsh : ∀ k, sh.getD k 0 ≤ 4) (h : Q (some (aI (bI (decide (shp (enB S t) n = sh))))) (mk S)) : CT sc mX10_hasShape [aR 389, aI (nI t)] (mk S) Q := by
  refine S_of (by decide) rfl ?_
  show G sc mX10_hasShape 0 [some (aR 389), some (aI (nI t)), none, none, none, none] [] (mk S) Q
  refine G_iconst (pc := 0) (v := nI 0) dX10_hasShape_0 (by decide) ?_
  refine G_istore_n (pc := 1) dX10_hasShape_1 rfl (by decide) rfl ?_
  refine G_iconst (pc := 2) (v := nI 1) dX10_hasShape_2 (by decide) ?_
  refine G_istore_n (pc := 3) dX10_hasShape_3 rfl (by decide) rfl ?_
  refine G_iconst (pc := 4) (v := nI 0) dX10_hasShape_4 (by decide) ?_
  refine G_istore (pc := 5) dX10_hasShape_5 (by decide) rfl ?_
  exact hasShape_lp ht hes hn hs hl hsh h n 0 _ (by omega)
/-- an end of this shape was shown, among the first t things -/
def knF (S : ST) (sh : List Nat) : Nat → Bool
  | 0 => false
  | t + 1 => knF S sh t || (decide (stN S t = 1) && decide (shp (enB S t) (esN S t) = sh))
def oddB (S : ST) (t : Nat) (ps : List Nat) : Bool := match runP (lnB S t) (szN S t) ps with
  | some l => !knF S (shp (fun i => l.getD i 0) l.length) (thN S)
  | none => true
set_option maxRecDepth 100000 in
set_option maxHeartbeats 4000000 in
theorem isOdd_lp {t : Nat} {sh : List Nat} (ha : MIa S) (hb : MIb S) (hs : ShpIs S sh) (hl : sh.length ≤ 36) (hsh : ∀ k, sh.getD k 0 ≤ 4) (h : Q (some (aI (bI (!knF S sh (thN S))))) (mk S)) :
    ∀ (d u : Nat), u + d = thN S →
      G sc mX10_isOdd 32 [some (aR 389), some (aI (nI t)), some (aI (bI (knF S sh u))), some (aI (nI u))] [] (mk S) Q := by
  have h12 := ha.1.2
  intro d
  induction d with
  | zero =>
    intro u hu
    have e : u = thN S := by omega
    subst e
    refine G_iload_n (pc := 32) dX10_isOdd_32 rfl rfl ?_
    refine G_aload_n (pc := 33) dX10_isOdd_33 rfl rfl ?_
    refine S_getI (pc := 34) dX10_isOdd_34 fX10_80 rfl (by first | rfl | assumption) rfl ?_
    rw [ha.1.1]
    refine N_icmp_ge (pc := 37) (tgt := 74) dX10_isOdd_37 (by decide) (by omega) (fun c37 => ?_) (fun c37 => absurd c37 (by omega))
    refine G_iload_n (pc := 74) dX10_isOdd_74 rfl rfl ?_
    refine B_if_ne (pc := 75) (tgt := 82) dX10_isOdd_75 (by decide) (fun c75 => ?_) (fun c75 => ?_)
    · skip
      rw [c75] at h
      refine G_iconst (pc := 82) (v := nI 0) dX10_isOdd_82 (by decide) ?_
      refine S_zret (pc := 83) dX10_isOdd_83 rfl rfl ?_
      exact h
    · skip
      rw [c75] at h
      refine G_iconst (pc := 78) (v := nI 1) dX10_isOdd_78 (by decide) ?_
      refine G_goto (pc := 79) (tgt := 83) dX10_isOdd_79 (by decide) ?_
      refine S_zret (pc := 83) dX10_isOdd_83 rfl rfl ?_
      exact h
  | succ d ih =>
    intro u hu
    have hbu := hb u (by omega)
    have e0 : knF S sh (u + 1) = (knF S sh u || (decide (stN S u = 1) && decide (shp (enB S u) (esN S u) = sh))) := rfl
    have K : ∀ (b : Bool), b = knF S sh (u + 1) → G sc mX10_isOdd 32 [some (aR 389), some (aI (nI t)), some (aI (bI b)), some (aI (nI (u + 1)))] [] (mk S) Q := by
      intro b h1
      rw [h1]
      exact ih (u + 1) (by omega)
    refine G_iload_n (pc := 32) dX10_isOdd_32 rfl rfl ?_
    refine G_aload_n (pc := 33) dX10_isOdd_33 rfl rfl ?_
    refine S_getI (pc := 34) dX10_isOdd_34 fX10_80 rfl (by first | rfl | assumption) rfl ?_
    rw [ha.1.1]
    refine N_icmp_ge (pc := 37) (tgt := 74) dX10_isOdd_37 (by decide) (by omega) (fun c37 => absurd c37 (by omega)) (fun c37 => ?_)
    refine G_iload_n (pc := 40) dX10_isOdd_40 rfl rfl ?_
    refine B_if_ne (pc := 41) (tgt := 62) dX10_isOdd_41 (by decide) (fun c41 => ?_) (fun c41 => ?_)
    · skip
      rw [c41] at e0
      refine G_iconst (pc := 62) (v := nI 1) dX10_isOdd_62 (by decide) ?_
      refine G_goto (pc := 63) (tgt := 67) dX10_isOdd_63 (by decide) ?_
      refine G_istore_n (pc := 67) dX10_isOdd_67 rfl (by decide) rfl ?_
      refine N_iinc (pc := 68) dX10_isOdd_68 rfl (by decide) rfl ?_
      refine G_goto (pc := 71) (tgt := 32) dX10_isOdd_71 (by decide) ?_
      first | exact K true e0.symm | exact K false e0.symm
    · skip
      rw [c41] at e0
      refine G_aload_n (pc := 44) dX10_isOdd_44 rfl rfl ?_
      refine S_getR (pc := 45) (b := 392) dX10_isOdd_45 fX10_16 rfl rfl (by first | rfl | assumption) rfl rfl ?_
      refine G_iload_n (pc := 48) dX10_isOdd_48 rfl rfl ?_
      refine N_iald (pc := 49) dX10_isOdd_49 (by first | rfl | assumption) (by first | rfl | assumption) (by omega) ?_
      rw [hbu.1.1]
      refine G_iconst (pc := 50) (v := nI 1) dX10_isOdd_50 (by decide) ?_
      refine N_icmp_ne (pc := 51) (tgt := 66) dX10_isOdd_51 (by decide) (by omega) (fun c51 => ?_) (fun c51 => ?_)
      · skip
        rw [decide_eq_false c51] at e0
        refine G_iconst (pc := 66) (v := nI 0) dX10_isOdd_66 (by decide) ?_
        refine G_istore_n (pc := 67) dX10_isOdd_67 rfl (by decide) rfl ?_
        refine N_iinc (pc := 68) dX10_isOdd_68 rfl (by decide) rfl ?_
        refine G_goto (pc := 71) (tgt := 32) dX10_isOdd_71 (by decide) ?_
        first | exact K true e0.symm | exact K false e0.symm
      · skip
        rw [decide_eq_true c51] at e0
        refine G_aload_n (pc := 54) dX10_isOdd_54 rfl rfl ?_
        refine G_iload_n (pc := 55) dX10_isOdd_55 rfl rfl ?_
        refine S_callV (av := [_]) (pc := 56) (z := mX10_hasShape) (ci := 9) dX10_isOdd_56 zX10_hasShape lX10_isOdd_266 rfl (by first | rfl | assumption) rfl rfl (sX10_hasShape (by omega) hbu.2.1.1 hbu.2.1.2 hs hl hsh ⟨_, rfl, ?_⟩)
        refine B_if_eq (pc := 59) (tgt := 66) dX10_isOdd_59 (by decide) (fun c59 => ?_) (fun c59 => ?_)
        · skip
          rw [c59] at e0
          refine G_iconst (pc := 66) (v := nI 0) dX10_isOdd_66 (by decide) ?_
          refine G_istore_n (pc := 67) dX10_isOdd_67 rfl (by decide) rfl ?_
          refine N_iinc (pc := 68) dX10_isOdd_68 rfl (by decide) rfl ?_
          refine G_goto (pc := 71) (tgt := 32) dX10_isOdd_71 (by decide) ?_
          first | exact K true e0.symm | exact K false e0.symm
        · skip
          rw [c59] at e0
          refine G_iconst (pc := 62) (v := nI 1) dX10_isOdd_62 (by decide) ?_
          refine G_goto (pc := 63) (tgt := 67) dX10_isOdd_63 (by decide) ?_
          refine G_istore_n (pc := 67) dX10_isOdd_67 rfl (by decide) rfl ?_
          refine N_iinc (pc := 68) dX10_isOdd_68 rfl (by decide) rfl ?_
          refine G_goto (pc := 71) (tgt := 32) dX10_isOdd_71 (by decide) ?_
          first | exact K true e0.symm | exact K false e0.symm
abbrev rX (a j : Nat) : Prop := a = 389 ∧ (j = 12 ∨ j = 27)
abbrev rA (a : Nat) : Prop := a = 397 ∨ a = 407
theorem rO {S S' : ST} (h : Fr oX oA S S') : Fr rX rA S S' := h.mono (fun a j q => ⟨q.1, by omega⟩) (fun a q => Or.inl q)
theorem rS {S S' : ST} (h : Fr sX sA S S') : Fr rX rA S S' := h.mono (fun a j q => ⟨q.1, by omega⟩) (fun a q => Or.inr q)
theorem wR {S S' : ST} (h : Fr rX rA S S') : Fr wX wA S S' := h.mono (fun a j q => ⟨q.1, by omega⟩) (fun a q => by constructor <;> omega)
theorem MIa_r {S S' : ST} (g : Fr rX rA S S') (h : MIa S) : MIa S' := MIa_of h (g.1 389 0 (by omega)) (g.2.1 391 (by omega)) (g.2.1 390 (by omega))
theorem thN_r {S S' : ST} (g : Fr rX rA S S') : thN S' = thN S := by unfold thN; rw [g.1 389 0 (by omega)]
theorem MIb_r {S S' : ST} (g : Fr rX rA S S') (h : MIb S) : MIb S' := by
  intro t ht
  rw [thN_r g] at ht
  have q := h t ht
  simp only [stN, esN, g.2.1 392 (by omega), g.2.1 394 (by omega), g.2.1 393 (by omega)] at q ⊢
  exact q
theorem knF_r {S S' : ST} (g : Fr rX rA S S') (sh : List Nat) : ∀ t, knF S' sh t = knF S sh t
  | 0 => rfl
  | t + 1 => by
    have e2 : enB S' t = enB S t := by funext j; exact g.2.1 393 (by omega) _
    have e3 : esN S' t = esN S t := by unfold esN; rw [g.2.1 394 (by omega)]
    have e4 : stN S' t = stN S t := by unfold stN; rw [g.2.1 392 (by omega)]
    unfold knF
    rw [e2, e3, e4, knF_r g sh t]
set_option maxRecDepth 100000 in
set_option maxHeartbeats 4000000 in
theorem sX10_isOdd {t : Nat} {ps : List Nat} (ha : MIa S) (hb : MIb S) (ht : t < thN S) (hps : PrIs S 404 0 ps) (hok : PgOk ps) (hno : runP (lnB S t) (szN S t) ps = none → ∀ S', Fr rX rA S S' → Q (some (aI (bI true))) (mk S')) (h : ∀ l, runP (lnB S t) (szN S t) ps = some l → ∀ S', Fr rX rA S S' → OutIs S' l → Q (some (aI (bI (!knF S (shp (fun i => l.getD i 0) l.length) (thN S))))) (mk S')) : CT sc mX10_isOdd [aR 389, aI (nI t)] (mk S) Q := by
  refine S_of (by decide) rfl ?_
  show G sc mX10_isOdd 0 [some (aR 389), some (aI (nI t)), none, none] [] (mk S) Q
  have hs := ha.2 t ht
  have h12 := ha.1.2
  refine G_aload_n (pc := 0) dX10_isOdd_0 rfl rfl ?_
  refine G_aload_n (pc := 1) dX10_isOdd_1 rfl rfl ?_
  refine S_getR (pc := 2) (b := 404) dX10_isOdd_2 fX10_53 rfl rfl (by first | rfl | assumption) rfl rfl ?_
  refine G_iconst (pc := 5) (v := nI 0) dX10_isOdd_5 (by decide) ?_
  refine G_iload_n (pc := 6) dX10_isOdd_6 rfl rfl ?_
  refine S_callV (av := [_, _, _]) (pc := 7) (z := mX10_runRow) (ci := 9) dX10_isOdd_7 zX10_runRow lX10_isOdd_243 rfl (by first | rfl | assumption) rfl rfl (sX10_runRow (z := 192) (n := szN S t) (by omega) hs.1 hs.2.2.1 rfl rfl (by omega) (by omega) hps hok.1 (fun S2 q k1 k2 k3 => ⟨_, rfl, ?_⟩) (fun k1 S2 k2 k3 => ⟨_, rfl, ?_⟩))
  · have hq := runP_le hs.2.2.1 hok k1
    refine B_if_ne (pc := 10) (tgt := 15) dX10_isOdd_10 (by decide) (fun c10 => ?_) (fun c10 => absurd c10 (by decide))
    refine G_aload_n (pc := 15) dX10_isOdd_15 rfl rfl ?_
    refine G_aload_n (pc := 16) dX10_isOdd_16 rfl rfl ?_
    refine S_getR (pc := 17) (b := 397) dX10_isOdd_17 fX10_31 rfl rfl (by first | rfl | assumption) rfl rfl ?_
    refine G_iconst (pc := 20) (v := nI 0) dX10_isOdd_20 (by decide) ?_
    refine G_aload_n (pc := 21) dX10_isOdd_21 rfl rfl ?_
    refine S_getI (pc := 22) dX10_isOdd_22 fX10_150 rfl (by first | rfl | assumption) rfl ?_
    rw [k3.1]
    refine S_callV (av := [_, _, _]) (pc := 25) (z := mX10_findShape) (ci := 9) dX10_isOdd_25 zX10_findShape lX10_isOdd_262 rfl (by first | rfl | assumption) rfl rfl (sX10_findShape k3 hq (fun S3 g1 g2 => ⟨_, rfl, ?_⟩))
    refine G_iconst (pc := 28) (v := nI 0) dX10_isOdd_28 (by decide) ?_
    refine G_istore_n (pc := 29) dX10_isOdd_29 rfl (by decide) rfl ?_
    refine G_iconst (pc := 30) (v := nI 0) dX10_isOdd_30 (by decide) ?_
    refine G_istore_n (pc := 31) dX10_isOdd_31 rfl (by decide) rfl ?_
    have g3 := (rO k2).tr (rS g1)
    refine isOdd_lp (MIa_r g3 ha) (MIb_r g3 hb) g2 (Nat.le_trans (shp_len _ _) hq) (shp_at _ _) ?_ (thN S3) 0 (by omega)
    rw [knF_r g3, thN_r g3]
    exact h q k1 S3 g3 (k3.kept (g1.1 389 12 (by omega)) (g1.2.1 397 (by omega)))
  skip
  refine B_if_ne (pc := 10) (tgt := 15) dX10_isOdd_10 (by decide) (fun c10 => absurd c10 (by decide)) (fun c10 => ?_)
  refine G_iconst (pc := 13) (v := nI 1) dX10_isOdd_13 (by decide) ?_
  refine S_zret (pc := 14) dX10_isOdd_14 rfl rfl ?_
  exact hno k1 S2 (rO k2)
def sp_odd (S : ST) (t : Int32) : Int32 := if isTh (thN S) t = true then lackS S (bI (oddB S t.toNatClampNeg (nr0 S))) else -1
theorem MIa_w {S S' : ST} (g : Fr wX wA S S') (h : MIa S) : MIa S' := MIa_of h (g.1 389 0 (by omega)) (g.2.1 391 (by omega)) (g.2.1 390 (by omega))
theorem thN_w {S S' : ST} (g : Fr wX wA S S') : thN S' = thN S := by unfold thN; rw [g.1 389 0 (by omega)]
theorem stN_w {S S' : ST} (g : Fr wX wA S S') (t : Nat) : stN S' t = stN S t := by unfold stN; rw [g.2.1 392 (by omega)]
theorem MIb_w {S S' : ST} (g : Fr wX wA S S') (h : MIb S) : MIb S' := by
  intro t ht
  rw [thN_w g] at ht
  have q := h t ht
  simp only [stN, esN, g.2.1 392 (by omega), g.2.1 394 (by omega), g.2.1 393 (by omega)] at q ⊢
  exact q
theorem knF_w {S S' : ST} (g : Fr wX wA S S') (sh : List Nat) : ∀ t, knF S' sh t = knF S sh t
  | 0 => rfl
  | t + 1 => by unfold knF; rw [enB_w (SpW_wf g), esN_w (SpW_wf g), stN_w g, knF_w g sh t]
theorem oddB_w {S S' : ST} (g : Fr wX wA S S') (t : Nat) (ps : List Nat) : oddB S' t ps = oddB S t ps := by
  unfold oddB
  rw [lnB_w (SpW_wf g), szN_w (SpW_wf g)]
  split
  · rw [knF_w g, thN_w g]
  · rfl
set_option maxRecDepth 100000 in
set_option maxHeartbeats 4000000 in
theorem sX10_odd {t : Int32} (hi : MI0 S) (h : ∀ S', Fr wX wA S S' → MIe S' → Q (some (aI (sp_odd S t))) (mk S')) : CT sc mX10_odd [aR 389, aI t] (mk S) Q := by
  refine S_of (by decide) rfl ?_
  show G sc mX10_odd 0 [some (aR 389), some (aI t), none] [] (mk S) Q
  have hn := hi.1.1
  refine G_aload_n (pc := 0) dX10_odd_0 rfl rfl ?_
  refine G_iload_n (pc := 1) dX10_odd_1 rfl rfl ?_
  refine S_callV (av := [_]) (pc := 2) (z := mX10_isThing) (ci := 9) dX10_odd_2 zX10_isThing lX10_odd_105 rfl (by first | rfl | assumption) rfl rfl (sX10_isThing hn.1 (by omega) ⟨_, rfl, ?_⟩)
  refine B_if_ne (pc := 5) (tgt := 10) dX10_odd_5 (by decide) (fun c5 => ?_) (fun c5 => ?_)
  · skip
    unfold sp_odd at h
    rw [if_pos c5] at h
    obtain ⟨k, hk, rfl⟩ := isTh_of c5
    rw [nI_clamp (by omega)] at h
    refine G_aload_n (pc := 10) dX10_odd_10 rfl rfl ?_
    refine S_callV (av := []) (pc := 11) (z := mX10_lacksFit) (ci := 9) dX10_odd_11 zX10_lacksFit lX10_odd_235 rfl (by first | rfl | assumption) rfl rfl (sX10_lacksFit hi (fun e => ⟨_, rfl, ?_⟩) (fun e1 e2 S1 g1 g2 => ⟨_, rfl, ?_⟩) (fun e1 e2 S1 g1 g2 g3 => ⟨_, rfl, ?_⟩))
    · rw [lackS_2 e] at h
      refine G_istore_n (pc := 14) dX10_odd_14 rfl (by decide) rfl ?_
      refine G_iload_n (pc := 15) dX10_odd_15 rfl rfl ?_
      refine T_if_ge (pc := 16) (tgt := 23) dX10_odd_16 (by decide) (fun c16 => absurd c16 (by decide)) (fun c16 => ?_)
      refine G_iload_n (pc := 19) dX10_odd_19 rfl rfl ?_
      refine G_goto (pc := 20) (tgt := 36) dX10_odd_20 (by decide) ?_
      refine S_iret (pc := 36) dX10_odd_36 rfl ?_
      exact h S Fr.rf hi.2.2.1
    · rw [lackS_4 e1 e2] at h
      refine G_istore_n (pc := 14) dX10_odd_14 rfl (by decide) rfl ?_
      refine G_iload_n (pc := 15) dX10_odd_15 rfl rfl ?_
      refine T_if_ge (pc := 16) (tgt := 23) dX10_odd_16 (by decide) (fun c16 => absurd c16 (by decide)) (fun c16 => ?_)
      refine G_iload_n (pc := 19) dX10_odd_19 rfl rfl ?_
      refine G_goto (pc := 20) (tgt := 36) dX10_odd_20 (by decide) ?_
      refine S_iret (pc := 36) dX10_odd_36 rfl ?_
      exact h S1 g1 g2
    rw [lackS_0 e1 e2, ← oddB_w g1] at h
    have hp := nr0_ok hi e1 e2
    unfold oddB at h
    skip
    refine G_istore_n (pc := 14) dX10_odd_14 rfl (by decide) rfl ?_
    refine G_iload_n (pc := 15) dX10_odd_15 rfl rfl ?_
    refine N_if_ge (pc := 16) (tgt := 23) dX10_odd_16 (by decide) (by omega) ?_
    refine G_aload_n (pc := 23) dX10_odd_23 rfl rfl ?_
    refine G_iload_n (pc := 24) dX10_odd_24 rfl rfl ?_
    refine S_callV (av := [_]) (pc := 25) (z := mX10_isOdd) (ci := 9) dX10_odd_25 zX10_isOdd lX10_odd_269 rfl (by first | rfl | assumption) rfl rfl (sX10_isOdd (ps := nr0 S) (MIa_w g1 hi.1) (MIb_w g1 hi.2.1) (by rw [thN_w g1]; exact hk) (NeIs0 g3 e2) hp (fun k1 S2 k2 => ⟨_, rfl, ?_⟩) (fun l k1 S2 k2 k3 => ⟨_, rfl, ?_⟩))
    · rw [k1] at h
      have h := h S2 (g1.tr (wR k2)) (MIe_k g2 (k2.1 389 18 (by omega)) (fun a ha i => k2.2.1 a (by omega) i))
      refine B_if_eq (pc := 28) (tgt := 35) dX10_odd_28 (by decide) (fun c28 => absurd c28 (by decide)) (fun c28 => ?_)
      refine G_iconst (pc := 31) (v := nI 1) dX10_odd_31 (by decide) ?_
      refine G_goto (pc := 32) (tgt := 36) dX10_odd_32 (by decide) ?_
      refine S_iret (pc := 36) dX10_odd_36 rfl ?_
      exact h
    rw [k1] at h
    have h := h S2 (g1.tr (wR k2)) (MIe_k g2 (k2.1 389 18 (by omega)) (fun a ha i => k2.2.1 a (by omega) i))
    skip
    refine B_if_eq (pc := 28) (tgt := 35) dX10_odd_28 (by decide) (fun c28 => ?_) (fun c28 => ?_)
    · skip
      dsimp only at h
      rw [c28] at h
      refine G_iconst (pc := 35) (v := nI 0) dX10_odd_35 (by decide) ?_
      refine S_iret (pc := 36) dX10_odd_36 rfl ?_
      exact h
    · skip
      dsimp only at h
      rw [c28] at h
      refine G_iconst (pc := 31) (v := nI 1) dX10_odd_31 (by decide) ?_
      refine G_goto (pc := 32) (tgt := 36) dX10_odd_32 (by decide) ?_
      refine S_iret (pc := 36) dX10_odd_36 rfl ?_
      exact h
  · skip
    unfold sp_odd at h
    rw [if_neg (by simp [c5])] at h
    refine G_iconst (pc := 8) (v := (-1)) dX10_odd_8 (by decide) ?_
    refine S_iret (pc := 9) dX10_odd_9 rfl ?_
    exact h S Fr.rf hi.2.2.1
end M33
