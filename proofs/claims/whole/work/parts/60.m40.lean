/-! the model: readProgram, text -/
/-- a piece of a text -/
def rd1 (T : List Nat) (a : Nat) : Option Nat × Nat := if lk T a = 34 then rdT T (sk T a) else rdC T (sk T a)
def rdG (T : List Nat) : Nat → Nat → Nat → List Nat → Option (List Nat) × Nat
  | 0, _, a, _ => (none, a)
  | d + 1, k, a, ps => match rd1 T a with
    | (none, b) => (none, b)
    | (some p, b) => if lk T b = 0 then (some (ps ++ [p]), sk T b) else if ¬ lk T b = 43 ∨ k = 2 ∨ (k = 1 ∧ p < 16777216) then (none, sk T b) else rdG T d (k + 1) (sk T b + 1) (ps ++ [p])
theorem rdG_0 {T : List Nat} {d k a b : Nat} {ps : List Nat} (h : rd1 T a = (none, b)) : rdG T (d + 1) k a ps = (none, b) := by
  conv => lhs; unfold rdG
  rw [h]
theorem rdG_1 {T : List Nat} {d k a p b : Nat} {ps : List Nat} (h : rd1 T a = (some p, b)) (h2 : lk T b = 0) : rdG T (d + 1) k a ps = (some (ps ++ [p]), sk T b) := by
  conv => lhs; unfold rdG
  rw [h]
  dsimp only
  rw [if_pos h2]
theorem rdG_2 {T : List Nat} {d k a p b : Nat} {ps : List Nat} (h : rd1 T a = (some p, b)) (h2 : ¬ lk T b = 0) (h3 : ¬ lk T b = 43 ∨ k = 2 ∨ (k = 1 ∧ p < 16777216)) : rdG T (d + 1) k a ps = (none, sk T b) := by
  conv => lhs; unfold rdG
  rw [h]
  dsimp only
  rw [if_neg h2, if_pos h3]
theorem rdG_3 {T : List Nat} {d k a p b : Nat} {ps : List Nat} (h : rd1 T a = (some p, b)) (h2 : ¬ lk T b = 0) (h3 : ¬ (¬ lk T b = 43 ∨ k = 2 ∨ (k = 1 ∧ p < 16777216))) : rdG T (d + 1) k a ps = rdG T d (k + 1) (sk T b + 1) (ps ++ [p]) := by
  conv => lhs; unfold rdG
  rw [h]
  dsimp only
  rw [if_neg h2, if_neg h3]
def rdA (T : List Nat) : Option (List Nat) × Nat := rdG T 3 0 0 []
section M40
variable {sc : SC} {S : ST} {Q : Option AV → HM → Prop} {T : List Nat}
theorem rdT_ok (hT : TpT S T) {a : Nat} (ha : a < T.length) : (∀ p, (rdT T a).1 = some p → 16777216 ≤ p ∧ p < 67108864) ∧ (rdT T a).2 ≤ T.length := by
  have ok := tyL_ok hT 3 0 0 (a + 1) (by omega) (by decide)
  unfold rdT
  rcases e : tyL T 3 0 0 (a + 1) with ⟨m, v, b⟩
  rw [e] at ok
  dsimp only at ok ⊢
  split
  · exact ⟨fun p hp => (by cases hp), ok.2.2.2⟩
  · rename_i q
    refine ⟨fun p hp => ?_, by dsimp only; omega⟩
    cases hp
    have : 256 ^ m ≤ 16777216 := by rcases (show m = 0 ∨ m = 1 ∨ m = 2 ∨ m = 3 by omega) with rfl | rfl | rfl | rfl <;> decide
    omega
theorem rdC_ok (hT : TpT S T) {a : Nat} (ha : a ≤ T.length) : (∀ p, (rdC T a).1 = some p → p < 4800) ∧ (rdC T a).2 ≤ T.length := by
  have ok := rdP_ok hT ha
  rcases hr : rdP T a with ⟨_ | f, b⟩
  · rw [hr] at ok
    rw [rdC_0 hr]
    exact ⟨fun p hp => (by cases hp), ok.2⟩
  · rw [hr] at ok
    have hf := ok.1 f rfl
    have hb : b ≤ T.length := ok.2
    by_cases hc : lk T b = 44
    · have hsb := lk_sk2 hT (a := b) (by omega)
      have ok2 := rdP_ok hT (a := sk T b + 1) (by omega)
      rcases hr2 : rdP T (sk T b + 1) with ⟨_ | t, c⟩
      · rw [hr2] at ok2
        rw [rdC_2 hr hc hr2]
        exact ⟨fun p hp => (by cases hp), ok2.2⟩
      · rw [hr2] at ok2
        rw [rdC_3 hr hc hr2]
        have ht := ok2.1 t rfl
        have hcl : c ≤ T.length := ok2.2
        have hsc := sk_le hcl
        have hu : tuN T c < 3 ∧ (0 < tuN T c → sk T c < T.length) := by
          unfold tuN
          split
          · exact ⟨by omega, fun _ => lk_sk2 hT (by omega)⟩
          · split
            · exact ⟨by omega, fun _ => lk_sk2 hT (by omega)⟩
            · exact ⟨by omega, fun z => absurd z (by omega)⟩
        refine ⟨fun p hp => by cases hp; omega, ?_⟩
        dsimp only
        split
        · rename_i z; have := hu.2 z; omega
        · omega
    · rw [rdC_1 hr hc]
      exact ⟨fun p hp => (by cases hp), sk_le hb⟩
theorem rd1_ok (hT : TpT S T) {a : Nat} (ha : a ≤ T.length) : (∀ p, (rd1 T a).1 = some p → isPc p) ∧ (rd1 T a).2 ≤ T.length := by
  unfold rd1
  split
  · have := rdT_ok hT (a := sk T a) (lk_sk2 hT (by omega))
    exact ⟨fun p hp => Or.inr (this.1 p hp), this.2⟩
  · have := rdC_ok hT (a := sk T a) (sk_le ha)
    exact ⟨fun p hp => Or.inl (this.1 p hp), this.2⟩
theorem upXI {a j b i : Nat} {v w : Int32} : upI (upX S a j v) b i w = upX (upI S b i w) a j v := rfl
abbrev zX (a j : Nat) : Prop := a = 389 ∧ j = 10
abbrev zA (a : Nat) : Prop := a = 409
theorem TpT_z {S S' : ST} (h : Fr zX zA S S') (hT : TpT S T) : TpT S' T := ⟨⟨(h.1 389 9 (by omega)).trans hT.1.1, fun a ha => (h.2.1 396 (by omega) a).trans (hT.1.2 a ha)⟩, hT.2⟩
theorem PrIs_push {a b p : Nat} {ps : List Nat} (h : PrIs S a b ps) (hl : ps.length < 3) : PrIs (upI S a (b + ps.length) (nI p)) a b (ps ++ [p]) := by
  refine ⟨by simp; omega, fun i hi => ?_, fun i h1 h2 => ?_⟩
  · by_cases e : i = ps.length
    · subst e
      rw [upI_s]
      simp
    · simp only [List.length_append, List.length_cons, List.length_nil] at hi
      rw [upI_n (by omega), h.2.1 i (by omega), List.getD_eq_getElem?_getD, List.getD_eq_getElem?_getD, List.getElem?_append_left (by omega)]
  · simp only [List.length_append, List.length_cons, List.length_nil] at h1
    rw [upI_n (by omega)]
    exact h.2.2 i (by omega) h2
set_option maxRecDepth 100000 in
set_option maxHeartbeats 4000000 in
theorem readProgram_lp {S0 : ST} (hT : TpT S0 T) :
    ∀ (d k a : Nat) (ps : List Nat) (S : ST) (o2 : Option AV), k + d = 3 → ps.length = k → a ≤ T.length → Fr zX zA S0 S → PrIs S 409 0 ps →
      (∀ qs b S1, rdG T d k a ps = (some qs, b) → Fr zX zA S0 S1 → PrIs S1 409 0 qs → Q (some (aI (bI true))) (mk (upX S1 389 10 (nI b)))) →
      (∀ b S1, rdG T d k a ps = (none, b) → Fr zX zA S0 S1 → Q (some (aI (bI false))) (mk (upX S1 389 10 (nI b)))) →
      G sc mX10_readProgram 27 [some (aR 389), some (aI (nI k)), o2] [] (mk (upX S 389 10 (nI a))) Q := by
  have hl := hT.2.1
  intro d
  induction d with
  | zero =>
    intro k a ps S o2 hk hps ha hF hp h1 h0
    refine G_iload_n (pc := 27) dX10_readProgram_27 rfl rfl ?_
    refine G_iconst (pc := 28) (v := nI 3) dX10_readProgram_28 (by decide) ?_
    refine N_icmp_ge (pc := 29) (tgt := 125) dX10_readProgram_29 (by decide) (by omega) (fun c29 => ?_) (fun c29 => absurd c29 (by omega))
    refine G_iconst (pc := 125) (v := nI 0) dX10_readProgram_125 (by decide) ?_
    refine S_zret (pc := 126) dX10_readProgram_126 rfl rfl ?_
    exact h0 a S rfl hF
  | succ d ih =>
    intro k a ps S o2 hk hps ha hF hp h1 h0
    have hTS := TpT_z hF hT
    have hk9 : (16777216 : Int32) = nI 16777216 := rfl
    have ok := rd1_ok hT ha
    have hsa := sk_le ha
    have K : ∀ x : Int32, x = midI (rd1 T a).1 → G sc mX10_readProgram 57 [some (aR 389), some (aI (nI k)), o2] [aI x, aI (nI k), aR 409] (mk (upX S 389 10 (nI (rd1 T a).2))) Q := by
      intro x hx
      rcases hr : rd1 T a with ⟨_ | p, b⟩
      · rw [hr] at hx
        have hx : x = -1 := hx
        subst hx
        have h0 := h0 b (upI S 409 k (-1)) (rdG_0 hr) (hF.tr (Fr.upI rfl))
        refine N_iast (pc := 57) dX10_readProgram_57 (by first | rfl | assumption) (by first | rfl | assumption) (by omega) ?_
        rw [upXI]
        refine G_aload_n (pc := 58) dX10_readProgram_58 rfl rfl ?_
        refine S_getR (pc := 59) (b := 409) dX10_readProgram_59 fX10_68 rfl rfl (by first | rfl | assumption) rfl rfl ?_
        refine G_iload_n (pc := 62) dX10_readProgram_62 rfl rfl ?_
        refine N_iald (pc := 63) dX10_readProgram_63 (by first | rfl | assumption) (by first | rfl | assumption) (by omega) ?_
        rw [show (upX (upI S 409 k (-1)) 389 10 (nI b)).2.1 409 k = -1 from upI_s]
        refine T_if_ge (pc := 64) (tgt := 69) dX10_readProgram_64 (by decide) (fun c64 => absurd c64 (by decide)) (fun c64 => ?_)
        refine G_iconst (pc := 67) (v := nI 0) dX10_readProgram_67 (by decide) ?_
        refine S_zret (pc := 68) dX10_readProgram_68 rfl rfl ?_
        exact h0
      · rw [hr] at hx ok
        have hx : x = nI p := hx
        subst hx
        have hpp := ok.1 p rfl
        have hpl := isPc_lt hpp
        have hb : b ≤ T.length := ok.2
        have hlb := lk_b hT b
        have hsb := sk_le hb
        have F2 : Fr zX zA S0 (upI S 409 k (nI p)) := hF.tr (Fr.upI rfl)
        have hT2 := TpT_z F2 hT
        have hp2 : PrIs (upI S 409 k (nI p)) 409 0 (ps ++ [p]) := by
          have := PrIs_push (p := p) hp (by omega)
          rw [hps, Nat.zero_add] at this
          exact this
        have rk : ∀ v, (upX (upI S 409 k (nI p)) 389 10 v).2.1 409 k = nI p := fun v => upI_s
        refine N_iast (pc := 57) dX10_readProgram_57 (by first | rfl | assumption) (by first | rfl | assumption) (by omega) ?_
        rw [upXI]
        refine G_aload_n (pc := 58) dX10_readProgram_58 rfl rfl ?_
        refine S_getR (pc := 59) (b := 409) dX10_readProgram_59 fX10_68 rfl rfl (by first | rfl | assumption) rfl rfl ?_
        refine G_iload_n (pc := 62) dX10_readProgram_62 rfl rfl ?_
        refine N_iald (pc := 63) dX10_readProgram_63 (by first | rfl | assumption) (by first | rfl | assumption) (by omega) ?_
        rw [rk _]
        refine N_if_ge (pc := 64) (tgt := 69) dX10_readProgram_64 (by decide) (by omega) ?_
        refine G_aload_n (pc := 69) dX10_readProgram_69 rfl rfl ?_
        refine S_callV (av := []) (pc := 70) (z := mX10_next) (ci := 9) dX10_readProgram_70 zX10_next lX10_readProgram_291 rfl (by first | rfl | assumption) rfl rfl (sX10_next hT2 hb ⟨_, rfl, ?_⟩)
        by_cases hz : lk T b = 0
        · rw [show nxI T b = -1 from by unfold nxI; rw [if_pos hz]]
          refine G_istore_n (pc := 73) dX10_readProgram_73 rfl (by decide) rfl ?_
          refine G_iload_n (pc := 74) dX10_readProgram_74 rfl rfl ?_
          refine T_if_ge (pc := 75) (tgt := 80) dX10_readProgram_75 (by decide) (fun c75 => absurd c75 (by decide)) (fun c75 => ?_)
          refine G_iconst (pc := 78) (v := nI 1) dX10_readProgram_78 (by decide) ?_
          refine S_zret (pc := 79) dX10_readProgram_79 rfl rfl ?_
          exact h1 _ _ _ (rdG_1 hr hz) F2 hp2
        · rw [show nxI T b = nI (lk T b) from by unfold nxI; rw [if_neg hz]]
          have hsk := lk_sk2 hT hz
          by_cases hc : ¬ lk T b = 43 ∨ k = 2 ∨ (k = 1 ∧ p < 16777216)
          · have h0 := h0 _ _ (rdG_2 hr hz hc) F2
            refine G_istore_n (pc := 73) dX10_readProgram_73 rfl (by decide) rfl ?_
            refine G_iload_n (pc := 74) dX10_readProgram_74 rfl rfl ?_
            refine N_if_ge (pc := 75) (tgt := 80) dX10_readProgram_75 (by decide) (by omega) ?_
            refine G_iload_n (pc := 80) dX10_readProgram_80 rfl rfl ?_
            refine G_bipush (pc := 81) (v := nI 43) dX10_readProgram_81 (by decide) ?_
            refine N_icmp_ne (pc := 83) (tgt := 107) dX10_readProgram_83 (by decide) (by omega) (fun c83 => ?_) (fun c83 => ?_)
            · skip
              refine G_iconst (pc := 107) (v := nI 0) dX10_readProgram_107 (by decide) ?_
              refine S_zret (pc := 108) dX10_readProgram_108 rfl rfl ?_
              exact h0
            · skip
              refine G_iload_n (pc := 86) dX10_readProgram_86 rfl rfl ?_
              refine G_iconst (pc := 87) (v := nI 2) dX10_readProgram_87 (by decide) ?_
              refine N_icmp_eq (pc := 88) (tgt := 107) dX10_readProgram_88 (by decide) (by omega) (fun c88 => ?_) (fun c88 => ?_)
              · skip
                refine G_iconst (pc := 107) (v := nI 0) dX10_readProgram_107 (by decide) ?_
                refine S_zret (pc := 108) dX10_readProgram_108 rfl rfl ?_
                exact h0
              · skip
                refine G_iload_n (pc := 91) dX10_readProgram_91 rfl rfl ?_
                refine G_iconst (pc := 92) (v := nI 1) dX10_readProgram_92 (by decide) ?_
                refine N_icmp_ne (pc := 93) (tgt := 109) dX10_readProgram_93 (by decide) (by omega) (fun c93 => ?_) (fun c93 => ?_)
                · skip
                  exfalso
                  omega
                · skip
                  refine G_aload_n (pc := 96) dX10_readProgram_96 rfl rfl ?_
                  refine S_getR (pc := 97) (b := 409) dX10_readProgram_97 fX10_68 rfl rfl (by first | rfl | assumption) rfl rfl ?_
                  refine G_iload_n (pc := 100) dX10_readProgram_100 rfl rfl ?_
                  refine N_iald (pc := 101) dX10_readProgram_101 (by first | rfl | assumption) (by first | rfl | assumption) (by omega) ?_
                  rw [rk _]
                  refine G_ldc (pc := 102) dX10_readProgram_102 kX10_149 ?_
                  rw [hk9]
                  refine N_icmp_ge (pc := 104) (tgt := 109) dX10_readProgram_104 (by decide) (by omega) (fun c104 => ?_) (fun c104 => ?_)
                  · skip
                    exfalso
                    omega
                  · skip
                    refine G_iconst (pc := 107) (v := nI 0) dX10_readProgram_107 (by decide) ?_
                    refine S_zret (pc := 108) dX10_readProgram_108 rfl rfl ?_
                    exact h0
          · rw [rdG_3 hr hz hc] at h1 h0
            refine G_istore_n (pc := 73) dX10_readProgram_73 rfl (by decide) rfl ?_
            refine G_iload_n (pc := 74) dX10_readProgram_74 rfl rfl ?_
            refine N_if_ge (pc := 75) (tgt := 80) dX10_readProgram_75 (by decide) (by omega) ?_
            refine G_iload_n (pc := 80) dX10_readProgram_80 rfl rfl ?_
            refine G_bipush (pc := 81) (v := nI 43) dX10_readProgram_81 (by decide) ?_
            refine N_icmp_ne (pc := 83) (tgt := 107) dX10_readProgram_83 (by decide) (by omega) (fun c83 => absurd c83 (by omega)) (fun c83 => ?_)
            refine G_iload_n (pc := 86) dX10_readProgram_86 rfl rfl ?_
            refine G_iconst (pc := 87) (v := nI 2) dX10_readProgram_87 (by decide) ?_
            refine N_icmp_eq (pc := 88) (tgt := 107) dX10_readProgram_88 (by decide) (by omega) (fun c88 => absurd c88 (by omega)) (fun c88 => ?_)
            refine G_iload_n (pc := 91) dX10_readProgram_91 rfl rfl ?_
            refine G_iconst (pc := 92) (v := nI 1) dX10_readProgram_92 (by decide) ?_
            refine N_icmp_ne (pc := 93) (tgt := 109) dX10_readProgram_93 (by decide) (by omega) (fun c93 => ?_) (fun c93 => ?_)
            · skip
              refine G_aload_n (pc := 109) dX10_readProgram_109 rfl rfl ?_
              refine G_dup (pc := 110) dX10_readProgram_110 rfl ?_
              refine S_getI (pc := 111) dX10_readProgram_111 fX10_288 rfl (by first | rfl | assumption) rfl ?_
              rw [tp_at]
              refine G_iconst (pc := 114) (v := nI 1) dX10_readProgram_114 (by decide) ?_
              refine N_iadd (pc := 115) dX10_readProgram_115 ?_
              refine S_putI (pc := 116) dX10_readProgram_116 fX10_288 (by decide) rfl (by first | rfl | assumption) rfl ?_
              refine N_iinc (pc := 119) dX10_readProgram_119 rfl (by decide) rfl ?_
              refine G_goto (pc := 122) (tgt := 27) dX10_readProgram_122 (by decide) ?_
              rw [upX_u]
              exact ih (k + 1) (sk T b + 1) (ps ++ [p]) _ _ (by omega) (by simp; omega) (by omega) F2 hp2 h1 h0
            · skip
              refine G_aload_n (pc := 96) dX10_readProgram_96 rfl rfl ?_
              refine S_getR (pc := 97) (b := 409) dX10_readProgram_97 fX10_68 rfl rfl (by first | rfl | assumption) rfl rfl ?_
              refine G_iload_n (pc := 100) dX10_readProgram_100 rfl rfl ?_
              refine N_iald (pc := 101) dX10_readProgram_101 (by first | rfl | assumption) (by first | rfl | assumption) (by omega) ?_
              rw [rk _]
              refine G_ldc (pc := 102) dX10_readProgram_102 kX10_149 ?_
              rw [hk9]
              refine N_icmp_ge (pc := 104) (tgt := 109) dX10_readProgram_104 (by decide) (by omega) (fun c104 => ?_) (fun c104 => ?_)
              · skip
                refine G_aload_n (pc := 109) dX10_readProgram_109 rfl rfl ?_
                refine G_dup (pc := 110) dX10_readProgram_110 rfl ?_
                refine S_getI (pc := 111) dX10_readProgram_111 fX10_288 rfl (by first | rfl | assumption) rfl ?_
                rw [tp_at]
                refine G_iconst (pc := 114) (v := nI 1) dX10_readProgram_114 (by decide) ?_
                refine N_iadd (pc := 115) dX10_readProgram_115 ?_
                refine S_putI (pc := 116) dX10_readProgram_116 fX10_288 (by decide) rfl (by first | rfl | assumption) rfl ?_
                refine N_iinc (pc := 119) dX10_readProgram_119 rfl (by decide) rfl ?_
                refine G_goto (pc := 122) (tgt := 27) dX10_readProgram_122 (by decide) ?_
                rw [upX_u]
                exact ih (k + 1) (sk T b + 1) (ps ++ [p]) _ _ (by omega) (by simp; omega) (by omega) F2 hp2 h1 h0
              · skip
                exfalso
                omega
    refine G_iload_n (pc := 27) dX10_readProgram_27 rfl rfl ?_
    refine G_iconst (pc := 28) (v := nI 3) dX10_readProgram_28 (by decide) ?_
    refine N_icmp_ge (pc := 29) (tgt := 125) dX10_readProgram_29 (by decide) (by omega) (fun c29 => absurd c29 (by omega)) (fun c29 => ?_)
    refine G_aload_n (pc := 32) dX10_readProgram_32 rfl rfl ?_
    refine S_getR (pc := 33) (b := 409) dX10_readProgram_33 fX10_68 rfl rfl (by first | rfl | assumption) rfl rfl ?_
    refine G_iload_n (pc := 36) dX10_readProgram_36 rfl rfl ?_
    refine G_aload_n (pc := 37) dX10_readProgram_37 rfl rfl ?_
    refine S_callV (av := []) (pc := 38) (z := mX10_next) (ci := 9) dX10_readProgram_38 zX10_next lX10_readProgram_291 rfl (by first | rfl | assumption) rfl rfl (sX10_next hTS ha ⟨_, rfl, ?_⟩)
    refine G_bipush (pc := 41) (v := nI 34) dX10_readProgram_41 (by decide) ?_
    refine T_icmp_ne (pc := 43) (tgt := 53) dX10_readProgram_43 (by decide) (fun c43 => ?_) (fun c43 => ?_)
    · skip
      have c43 : ¬ lk T a = 34 := fun z => c43 ((nx_eq hT (by decide)).mpr z)
      have e1 : rd1 T a = rdC T (sk T a) := by unfold rd1; rw [if_neg c43]
      refine G_aload_n (pc := 53) dX10_readProgram_53 rfl rfl ?_
      refine S_callV (av := []) (pc := 54) (z := mX10_readCut) (ci := 9) dX10_readProgram_54 zX10_readCut lX10_readProgram_312 rfl (by first | rfl | assumption) rfl rfl (sX10_readCut hTS hsa ⟨_, rfl, ?_⟩)
      rw [← e1]
      exact K _ rfl
    · skip
      have c43 := (nx_eq hT (by decide)).mp c43
      have e1 : rd1 T a = rdT T (sk T a) := by unfold rd1; rw [if_pos c43]
      refine G_aload_n (pc := 46) dX10_readProgram_46 rfl rfl ?_
      refine S_callV (av := []) (pc := 47) (z := mX10_readTyped) (ci := 9) dX10_readProgram_47 zX10_readTyped lX10_readProgram_309 rfl (by first | rfl | assumption) rfl rfl (sX10_readTyped hTS (lk_sk2 hT (by omega)) ⟨_, rfl, ?_⟩)
      rw [← e1]
      refine G_goto (pc := 50) (tgt := 57) dX10_readProgram_50 (by decide) ?_
      exact K _ rfl
set_option maxRecDepth 100000 in
set_option maxHeartbeats 4000000 in
theorem sX10_readProgram (hT : TpT S T) (h1 : ∀ qs b S1, rdA T = (some qs, b) → Fr zX zA S S1 → PrIs S1 409 0 qs → Q (some (aI (bI true))) (mk (upX S1 389 10 (nI b)))) (h0 : ∀ b S1, rdA T = (none, b) → Fr zX zA S S1 → Q (some (aI (bI false))) (mk (upX S1 389 10 (nI b)))) : CT sc mX10_readProgram [aR 389] (mk S) Q := by
  refine S_of (by decide) rfl ?_
  show G sc mX10_readProgram 0 [some (aR 389), none, none] [] (mk S) Q
  have K : ∀ (S2 : ST) , Fr zX zA S S2 → PrIs S2 409 0 [] → G sc mX10_readProgram 25 [some (aR 389), some (aI (nI 3)), none] [] (mk (upX S2 389 10 (nI 0))) Q := by
    intro S2 f1 f2
    refine G_iconst (pc := 25) (v := nI 0) dX10_readProgram_25 (by decide) ?_
    refine G_istore_n (pc := 26) dX10_readProgram_26 rfl (by decide) rfl ?_
    exact readProgram_lp hT 3 0 0 [] S2 _ (by omega) rfl (by omega) f1 f2 h1 h0
  have lp : ∀ (d k : Nat) (S2 : ST), k + d = 3 → Fr zX zA S S2 → (∀ i, i < k → S2.2.1 409 i = -1) → G sc mX10_readProgram 7 [some (aR 389), some (aI (nI k)), none] [] (mk (upX S2 389 10 (nI 0))) Q := by
    intro d
    induction d with
    | zero =>
      intro k S2 hk f1 f2
      have e : k = 3 := by omega
      subst e
      refine G_iload_n (pc := 7) dX10_readProgram_7 rfl rfl ?_
      refine G_iconst (pc := 8) (v := nI 3) dX10_readProgram_8 (by decide) ?_
      refine N_icmp_ge (pc := 9) (tgt := 25) dX10_readProgram_9 (by decide) (by omega) (fun c9 => ?_) (fun c9 => absurd c9 (by omega))
      exact K S2 f1 ⟨by simp, fun i hi => by simp at hi, fun i _ hi => by rw [Nat.zero_add]; exact f2 i hi⟩
    | succ d ih =>
      intro k S2 hk f1 f2
      refine G_iload_n (pc := 7) dX10_readProgram_7 rfl rfl ?_
      refine G_iconst (pc := 8) (v := nI 3) dX10_readProgram_8 (by decide) ?_
      refine N_icmp_ge (pc := 9) (tgt := 25) dX10_readProgram_9 (by decide) (by omega) (fun c9 => absurd c9 (by omega)) (fun c9 => ?_)
      refine G_aload_n (pc := 12) dX10_readProgram_12 rfl rfl ?_
      refine S_getR (pc := 13) (b := 409) dX10_readProgram_13 fX10_68 rfl rfl (by first | rfl | assumption) rfl rfl ?_
      refine G_iload_n (pc := 16) dX10_readProgram_16 rfl rfl ?_
      refine G_iconst (pc := 17) (v := (-1)) dX10_readProgram_17 (by decide) ?_
      refine N_iast (pc := 18) dX10_readProgram_18 (by first | rfl | assumption) (by first | rfl | assumption) (by omega) ?_
      refine N_iinc (pc := 19) dX10_readProgram_19 rfl (by decide) rfl ?_
      refine G_goto (pc := 22) (tgt := 7) dX10_readProgram_22 (by decide) ?_
      rw [upXI]
      refine ih (k + 1) _ (by omega) (f1.tr (Fr.upI rfl)) (fun i hi => ?_)
      by_cases e : i = k
      · subst e; exact upI_s
      · rw [upI_n (by omega)]; exact f2 i (by omega)
  refine G_aload_n (pc := 0) dX10_readProgram_0 rfl rfl ?_
  refine G_iconst (pc := 1) (v := nI 0) dX10_readProgram_1 (by decide) ?_
  refine S_putI (pc := 2) dX10_readProgram_2 fX10_288 (by decide) rfl (by first | rfl | assumption) rfl ?_
  refine G_iconst (pc := 5) (v := nI 0) dX10_readProgram_5 (by decide) ?_
  refine G_istore_n (pc := 6) dX10_readProgram_6 rfl (by decide) rfl ?_
  exact lp 3 0 S (by omega) Fr.rf (fun i hi => by omega)
abbrev xX (a j : Nat) : Prop := a = 389 ∧ (j = 9 ∨ j = 10)
theorem zx {S S' : ST} (h : Fr zX zA S S') : Fr xX zA S S' := h.mono (fun a j q => ⟨q.1, Or.inr q.2⟩) (fun a q => q)
set_option maxRecDepth 100000 in
set_option maxHeartbeats 4000000 in
theorem sX10_text (hT : TpT S T) (hd : MId S) (hno : ∀ b, rdA T = (none, b) → ∀ S', Fr xX zA S S' → S'.1 389 9 = nI 0 → Q (some (aI (-20 - nI b))) (mk S')) (hfull : ∀ qs b, rdA T = (some qs, b) → kpN S = 4 → ∀ S', Fr xX zA S S' → S'.1 389 9 = nI 0 → Q (some (aI (-3))) (mk S'))
    (h : ∀ qs b, rdA T = (some qs, b) → kpN S < 4 → ∀ S', Fr xX zA S S' → S'.1 389 9 = nI 0 → PrIs S' 409 0 qs → Q (some (aI (nI (kpN S)))) (mk (upX (upR S' 408 (3 * kpN S) 3 (S'.2.1 409)) 389 28 (nI (kpN S + 1))))) : CT sc mX10_text [aR 389] (mk S) Q := by
  refine S_of (by decide) rfl ?_
  show G sc mX10_text 0 [some (aR 389), none, none] [] (mk S) Q
  refine G_aload_n (pc := 0) dX10_text_0 rfl rfl ?_
  refine S_callV (av := []) (pc := 1) (z := mX10_readProgram) (ci := 9) dX10_text_1 zX10_readProgram lX10_text_315 rfl (by first | rfl | assumption) rfl rfl (sX10_readProgram hT (fun qs b S1 e g1 g2 => ⟨_, rfl, ?_⟩) (fun b S1 e g1 => ⟨_, rfl, ?_⟩))
  · have f1 : Fr xX zA S (upX (upX S1 389 10 (nI b)) 389 9 (nI 0)) := ((zx g1).tr (Fr.upX ⟨rfl, Or.inr rfl⟩)).tr (Fr.upX ⟨rfl, Or.inl rfl⟩)
    refine G_istore_n (pc := 4) dX10_text_4 rfl (by decide) rfl ?_
    refine G_aload_n (pc := 5) dX10_text_5 rfl rfl ?_
    refine S_getI (pc := 6) dX10_text_6 fX10_288 rfl (by first | rfl | assumption) rfl ?_
    rw [tp_at]
    refine G_istore_n (pc := 9) dX10_text_9 rfl (by decide) rfl ?_
    refine G_aload_n (pc := 10) dX10_text_10 rfl rfl ?_
    refine G_iconst (pc := 11) (v := nI 0) dX10_text_11 (by decide) ?_
    refine S_putI (pc := 12) dX10_text_12 fX10_96 (by decide) rfl (by first | rfl | assumption) rfl ?_
    refine G_iload_n (pc := 15) dX10_text_15 rfl rfl ?_
    refine B_if_eq (pc := 16) (tgt := 30) dX10_text_16 (by decide) (fun c16 => absurd c16 (by decide)) (fun c16 => ?_)
    refine G_aload_n (pc := 19) dX10_text_19 rfl rfl ?_
    refine G_aload_n (pc := 20) dX10_text_20 rfl rfl ?_
    refine S_getR (pc := 21) (b := 409) dX10_text_21 fX10_68 rfl rfl (by first | rfl | assumption) rfl rfl ?_
    refine S_callV (av := [_]) (pc := 24) (z := mX10_addKept) (ci := 9) dX10_text_24 zX10_addKept lX10_text_284 rfl (by first | rfl | assumption) rfl rfl (sX10_addKept (z := 3) (k := kpN S) hd.1.2 rfl rfl (by omega) (by omega) ((f1.1 389 28 (by omega)).trans hd.1.1) (fun e2 => ⟨_, rfl, ?_⟩) (fun e2 => ⟨_, rfl, ?_⟩))
    · skip
      refine G_goto (pc := 27) (tgt := 34) dX10_text_27 (by decide) ?_
      refine S_iret (pc := 34) dX10_text_34 rfl ?_
      exact hfull qs b e e2 _ f1 upX_s
    refine G_goto (pc := 27) (tgt := 34) dX10_text_27 (by decide) ?_
    refine S_iret (pc := 34) dX10_text_34 rfl ?_
    exact h qs b e e2 _ f1 upX_s g2
  skip
  refine G_istore_n (pc := 4) dX10_text_4 rfl (by decide) rfl ?_
  refine G_aload_n (pc := 5) dX10_text_5 rfl rfl ?_
  refine S_getI (pc := 6) dX10_text_6 fX10_288 rfl (by first | rfl | assumption) rfl ?_
  rw [tp_at]
  refine G_istore_n (pc := 9) dX10_text_9 rfl (by decide) rfl ?_
  refine G_aload_n (pc := 10) dX10_text_10 rfl rfl ?_
  refine G_iconst (pc := 11) (v := nI 0) dX10_text_11 (by decide) ?_
  refine S_putI (pc := 12) dX10_text_12 fX10_96 (by decide) rfl (by first | rfl | assumption) rfl ?_
  refine G_iload_n (pc := 15) dX10_text_15 rfl rfl ?_
  refine B_if_eq (pc := 16) (tgt := 30) dX10_text_16 (by decide) (fun c16 => ?_) (fun c16 => absurd c16 (by decide))
  refine G_bipush (pc := 30) (v := (-20)) dX10_text_30 (by decide) ?_
  refine G_iload_n (pc := 32) dX10_text_32 rfl rfl ?_
  refine G_isub (pc := 33) dX10_text_33 ?_
  refine S_iret (pc := 34) dX10_text_34 rfl ?_
  exact hno b e _ (((zx g1).tr (Fr.upX ⟨rfl, Or.inr rfl⟩)).tr (Fr.upX ⟨rfl, Or.inl rfl⟩)) upX_s
end M40
