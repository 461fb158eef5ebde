/-! the class: line, put -/
theorem lst_s {g : Nat → Int32} {n : Nat} : lst g (n + 1) = lst g n ++ [g n] := by
  unfold lst
  rw [List.range_succ, List.map_append]
  rfl
theorem allIt_iff {S : ST} {b : Nat} : ∀ d j, allIt S b d j = true ↔ ∀ x, j ≤ x → x < j + d → isBy (S.2.1 412 (b + x))
  | 0, j => ⟨fun _ x h1 h2 => by omega, fun _ => rfl⟩
  | d + 1, j => by
    unfold allIt
    rw [Bool.and_eq_true, allIt_iff d (j + 1), decide_eq_true_eq]
    constructor
    · intro h x h1 h2
      by_cases e : x = j
      · subst e; exact h.1
      · exact h.2 x (by omega) (by omega)
    · exact fun h => ⟨h j (Nat.le_refl _) (by omega), fun x h1 h2 => h x (by omega) (by omega)⟩
theorem lst_by {g : Nat → Int32} {n : Nat} (h : ∀ j, j < n → isBy (g j)) : LBy (lst g n) := fun x hx => by
  unfold lst at hx
  obtain ⟨j, h1, rfl⟩ := List.mem_map.mp hx
  exact h j (List.mem_range.mp h1)
theorem laneV_by {l : Nat} {x : Int32} (h : isBy x) : laneV l x = x := by
  have h1 := h.1
  have h2 := h.2
  unfold laneV
  split
  · rw [← sh8]; exact by8' h
  · split
    · rw [← sh16]; exact by16 (by omega)
    · rfl
section C30
variable {sc : SC} {S : ST} {Q : Option AV → HM → Prop}
set_option maxRecDepth 100000 in
set_option maxHeartbeats 4000000 in
theorem lineC_lp {S0 : ST} {k b z m : Nat} {l v : Int32} (hk : k < 4) (hz : z ≤ 16) (hbz : b + z ≤ 20) (hm : m ≤ 12) (hnot : allIt S0 (20 * k + b) z 0 = false → ∀ S', Fr scX scA S S' → Q (some (aI (-2))) (mk S'))
    (hfull : allIt S0 (20 * k + b) z 0 = true → m = 12 → ∀ S', Fr scX scA S S' → Q (some (aI (-3))) (mk S'))
    (hok : allIt S0 (20 * k + b) z 0 = true → m < 12 → ∀ S1 S', Fr scX scA S S1 → Fr (atX m) (atA m) S1 S' → S'.1 0 3 = nI (m + 1) → LnIs S' (289 + 7 * m) (fun j => (lst (fun j => S0.2.1 412 (20 * k + b + j)) z).getD j 0) z → PlIs S' (289 + 7 * m) (fun j => (lst (fun j => S0.2.1 412 (20 * k + b + j)) z).getD j 0) z → Q (some (aI (nI m))) (mk S')) :
    ∀ (d i : Nat) (S1 : ST), i + d = z → Fr scX scA S S1 → S1.1 0 3 = nI m → (∀ j, j < 20 → S1.2.1 (381 + 2 * k + 1) j = S0.2.1 412 (20 * k + j)) → RwIs S1 3 (lst (fun j => S0.2.1 412 (20 * k + b + j)) i) → (∀ j, j < i → isBy (S0.2.1 412 (20 * k + b + j))) →
      G sc mX9_line 77 [some (aR 0), some (aI (nI k)), some (aI l), some (aI (nI b)), some (aI (nI z)), some (aR (381 + 2 * k)), some (aI v), some (aI (nI (b + i)))] [] (mk S1) Q := by
  obtain ⟨k1, k2⟩ := ShK_t k hk
  intro d
  induction d with
  | zero =>
    intro i S1 hi hF h3 hit hr hj
    have e : i = z := by omega
    subst e
    have hA : allIt S0 (20 * k + b) i 0 = true := (allIt_iff i 0).mpr (fun x _ h2 => hj x (by omega))
    refine G_iload (pc := 77) dX9_line_77 rfl ?_
    refine G_iload_n (pc := 79) dX9_line_79 rfl rfl ?_
    refine G_iload (pc := 80) dX9_line_80 rfl ?_
    refine N_iadd (pc := 82) dX9_line_82 ?_
    refine N_icmp_ge (pc := 83) (tgt := 124) dX9_line_83 (by decide) (by omega) (fun c83 => ?_) (fun c83 => absurd c83 (by omega))
    refine G_aload_n (pc := 124) dX9_line_124 rfl rfl ?_
    refine G_aload_n (pc := 125) dX9_line_125 rfl rfl ?_
    refine S_getR (pc := 126) (b := 3) dX9_line_126 fX9_18 rfl rfl (by first | rfl | assumption) rfl rfl ?_
    refine S_callV (av := [_]) (pc := 129) (z := mX9_addThing) (ci := 8) dX9_line_129 zX9_addThing lX9_line_98 rfl (by first | rfl | assumption) rfl rfl (sX9_addThing RwK_s (by omega) hr (lst_by hj) (by rw [lst_len]; exact hz) (by rw [lst_len]; omega) hm h3 (fun e => ⟨_, rfl, ?_⟩) (fun e S2 w1 w2 w3 w4 => ⟨_, rfl, ?_⟩))
    · skip
      have h := hfull hA e S1 hF
      refine S_iret (pc := 132) dX9_line_132 rfl ?_
      exact h
    rw [lst_len] at w3 w4
    have h := hok hA e S1 S2 hF w1 w2 w3 w4
    refine S_iret (pc := 132) dX9_line_132 rfl ?_
    exact h
  | succ d ih =>
    intro i S1 hi hF h3 hit hr hj
    have hv := hit (b + i) (by omega)
    rw [← Nat.add_assoc] at hv
    refine G_iload (pc := 77) dX9_line_77 rfl ?_
    refine G_iload_n (pc := 79) dX9_line_79 rfl rfl ?_
    refine G_iload (pc := 80) dX9_line_80 rfl ?_
    refine N_iadd (pc := 82) dX9_line_82 ?_
    refine N_icmp_ge (pc := 83) (tgt := 124) dX9_line_83 (by decide) (by omega) (fun c83 => absurd c83 (by omega)) (fun c83 => ?_)
    refine G_aload (pc := 86) dX9_line_86 rfl ?_
    refine S_getR (pc := 88) (b := 381 + 2 * k + 1) dX9_line_88 fX9_119 rfl rfl (by first | rfl | assumption) rfl rfl ?_
    refine G_iload (pc := 91) dX9_line_91 rfl ?_
    refine N_iald (pc := 93) dX9_line_93 (by first | rfl | assumption) (by first | rfl | assumption) (by omega) ?_
    rw [hv]
    refine S_callS (av := [_]) (pc := 94) (z := mX9_isLineByte) dX9_line_94 zX9_isLineByte lX9_line_88 rfl (sX9_isLineByte ⟨_, rfl, ?_⟩)
    refine B_if_ne (pc := 97) (tgt := 103) dX9_line_97 (by decide) (fun c97 => ?_) (fun c97 => ?_)
    · skip
      rw [decide_eq_true_eq] at c97
      refine G_aload_n (pc := 103) dX9_line_103 rfl rfl ?_
      refine S_getR (pc := 104) (b := 3) dX9_line_104 fX9_18 rfl rfl (by first | rfl | assumption) rfl rfl ?_
      refine G_aload (pc := 107) dX9_line_107 rfl ?_
      refine S_getR (pc := 109) (b := 381 + 2 * k + 1) dX9_line_109 fX9_119 rfl rfl (by first | rfl | assumption) rfl rfl ?_
      refine G_iload (pc := 112) dX9_line_112 rfl ?_
      refine N_iald (pc := 114) dX9_line_114 (by first | rfl | assumption) (by first | rfl | assumption) (by omega) ?_
      rw [hv]
      refine S_callV (av := [_]) (pc := 115) (z := mX4_add) (ci := 3) dX9_line_115 zX4_add lX9_line_95 rfl (by first | rfl | assumption) rfl rfl (sX4_add RwK_s hr (by rw [lst_len]; omega) c97 ⟨_, rfl, ?_⟩)
      refine N_iinc (pc := 118) dX9_line_118 rfl (by decide) rfl ?_
      refine G_goto (pc := 121) (tgt := 77) dX9_line_121 (by decide) ?_
      have g0 : Fr scX scA S1 (upX (upI S1 (3 + 1) (lst (fun j => S0.2.1 412 (20 * k + b + j)) i).length (S0.2.1 412 (20 * k + b + i))) 3 1 (nI ((lst (fun j => S0.2.1 412 (20 * k + b + j)) i).length + 1))) := Fr.tr (Fr.upI rfl) (Fr.upX ⟨rfl, rfl⟩)
      refine ih (i + 1) _ (by omega) (hF.tr g0) ((g0.1 0 3 (by omega)).trans h3) (fun j hj2 => (g0.2.1 _ (by omega) j).trans (hit j hj2)) ?_ (fun j hj2 => ?_)
      · have := hr.push (x := S0.2.1 412 (20 * k + b + i))
        rw [lst_s]
        exact this
      · by_cases e : j = i
        · subst e; exact c97
        · exact hj j (by omega)
    · skip
      refine G_bipush (pc := 100) (v := (-2)) dX9_line_100 (by decide) ?_
      refine S_iret (pc := 102) dX9_line_102 rfl ?_
      refine hnot ?_ S1 hF
      rw [decide_eq_false_iff_not] at c97
      rcases e : allIt S0 (20 * k + b) z 0 with _ | _
      · rfl
      · exact absurd ((allIt_iff z 0).mp e i (by omega) (by omega)) c97
set_option maxRecDepth 100000 in
set_option maxHeartbeats 4000000 in
theorem sX9_line {S0 : ST} {s l f n : Int32} {m : Nat} (hc : MIc S0) (hS : CSh S0 S) (hm : m ≤ 12) (hth : S.1 0 3 = nI m) (hbad : isShB s l = false ∨ ¬ (1 ≤ n.toInt ∧ n.toInt ≤ 16) → Q (some (aI (-1))) (mk S))
    (hno : ∀ k, s = nI k → k < 4 → isShB s l = true → 1 ≤ n.toInt ∧ n.toInt ≤ 16 → ¬ (S0.2.1 410 k).toInt = l.toInt → Q (some (aI (lackV (S0.2.1 410 k) l))) (mk S))
    (hidx : ∀ k, s = nI k → k < 4 → isShB s l = true → 1 ≤ n.toInt ∧ n.toInt ≤ 16 → (S0.2.1 410 k).toInt = l.toInt → ¬ (0 ≤ f.toInt ∧ f.toInt ≤ (rsN S0 k : Int) - n.toInt) → Q (some (aI (-13))) (mk S))
    (hnot : ∀ k b z, s = nI k → f = nI b → n = nI z → k < 4 → isShB s l = true → 1 ≤ z ∧ z ≤ 16 → (S0.2.1 410 k).toInt = l.toInt → b + z ≤ rsN S0 k → allIt S0 (20 * k + b) z 0 = false → ∀ S', Fr scX scA S S' → Q (some (aI (-2))) (mk S'))
    (hfull : ∀ k b z, s = nI k → f = nI b → n = nI z → k < 4 → isShB s l = true → 1 ≤ z ∧ z ≤ 16 → (S0.2.1 410 k).toInt = l.toInt → b + z ≤ rsN S0 k → allIt S0 (20 * k + b) z 0 = true → m = 12 → ∀ S', Fr scX scA S S' → Q (some (aI (-3))) (mk S'))
    (hok : ∀ k b z, s = nI k → f = nI b → n = nI z → k < 4 → isShB s l = true → 1 ≤ z ∧ z ≤ 16 → (S0.2.1 410 k).toInt = l.toInt → b + z ≤ rsN S0 k → allIt S0 (20 * k + b) z 0 = true → m < 12 → ∀ S1 S', Fr scX scA S S1 → Fr (atX m) (atA m) S1 S' → S'.1 0 3 = nI (m + 1) → LnIs S' (289 + 7 * m) (fun j => (lst (fun j => S0.2.1 412 (20 * k + b + j)) z).getD j 0) z → PlIs S' (289 + 7 * m) (fun j => (lst (fun j => S0.2.1 412 (20 * k + b + j)) z).getD j 0) z → Q (some (aI (nI m))) (mk S')) : CT sc mX9_line [aR 0, aI s, aI l, aI f, aI n] (mk S) Q := by
  refine S_of (by decide) rfl ?_
  show G sc mX9_line 0 [some (aR 0), some (aI s), some (aI l), some (aI f), some (aI n), none, none, none] [] (mk S) Q
  have z1 : (nI 1).toInt = 1 := rfl
  have z16 : (nI 16).toInt = 16 := rfl
  have nb : ∀ p : Prop, ¬ p → (isShB s l = true → p) → isShB s l = false := fun p h1 h2 => by
    rcases e : isShB s l with _ | _
    · rfl
    · exact absurd (h2 e) h1
  refine G_iload_n (pc := 0) dX9_line_0 rfl rfl ?_
  refine S_callS (av := [_]) (pc := 1) (z := mX9_isSheet) dX9_line_1 zX9_isSheet lX9_line_105 rfl (sX9_isSheet ⟨_, rfl, ?_⟩)
  refine B_if_eq (pc := 4) (tgt := 27) dX9_line_4 (by decide) (fun c4 => ?_) (fun c4 => ?_)
  · skip
    rw [decide_eq_false_iff_not] at c4
    have hB : isShB s l = false ∨ ¬ (1 ≤ n.toInt ∧ n.toInt ≤ 16) := Or.inl (nb _ c4 (fun e => (isShB_iff.mp e).1))
    refine G_iconst (pc := 27) (v := (-1)) dX9_line_27 (by decide) ?_
    refine S_iret (pc := 28) dX9_line_28 rfl ?_
    exact hbad hB
  · skip
    refine G_iload_n (pc := 7) dX9_line_7 rfl rfl ?_
    refine S_callS (av := [_]) (pc := 8) (z := mX9_isLane) dX9_line_8 zX9_isLane lX9_line_108 rfl (sX9_isLane ⟨_, rfl, ?_⟩)
    refine B_if_eq (pc := 11) (tgt := 27) dX9_line_11 (by decide) (fun c11 => ?_) (fun c11 => ?_)
    · skip
      rw [decide_eq_false_iff_not] at c11
      have hB : isShB s l = false ∨ ¬ (1 ≤ n.toInt ∧ n.toInt ≤ 16) := Or.inl (nb _ c11 (fun e => (isShB_iff.mp e).2))
      refine G_iconst (pc := 27) (v := (-1)) dX9_line_27 (by decide) ?_
      refine S_iret (pc := 28) dX9_line_28 rfl ?_
      exact hbad hB
    · skip
      refine G_iload (pc := 14) dX9_line_14 rfl ?_
      refine G_iconst (pc := 16) (v := nI 1) dX9_line_16 (by decide) ?_
      refine T_icmp_lt (pc := 17) (tgt := 27) dX9_line_17 (by decide) (fun c17 => ?_) (fun c17 => ?_)
      · skip
        rw [z1] at c17
        have hB : isShB s l = false ∨ ¬ (1 ≤ n.toInt ∧ n.toInt ≤ 16) := Or.inr (by omega)
        refine G_iconst (pc := 27) (v := (-1)) dX9_line_27 (by decide) ?_
        refine S_iret (pc := 28) dX9_line_28 rfl ?_
        exact hbad hB
      · skip
        refine G_iload (pc := 20) dX9_line_20 rfl ?_
        refine G_bipush (pc := 22) (v := nI 16) dX9_line_22 (by decide) ?_
        refine T_icmp_le (pc := 24) (tgt := 29) dX9_line_24 (by decide) (fun c24 => ?_) (fun c24 => ?_)
        · skip
          rw [z1] at c17
          rw [z16] at c24
          rw [decide_eq_true_eq] at c4 c11
          have hT : isShB s l = true := isShB_iff.mpr ⟨c4, c11⟩
          have hn : 1 ≤ n.toInt ∧ n.toInt ≤ 16 := by omega
          clear nb hbad
          obtain ⟨k, es, hk⟩ : ∃ k, s = nI k ∧ k < 4 := ⟨s.toInt.toNat, nI_ofT (by omega), by omega⟩
          obtain ⟨z, en, hz⟩ : ∃ z, n = nI z ∧ 1 ≤ z ∧ z ≤ 16 := ⟨n.toInt.toNat, nI_ofT (by omega), by omega, by omega⟩
          subst es
          subst en
          obtain ⟨k1, k2⟩ := ShK_t k hk
          obtain ⟨a1, a2, a3⟩ := hS k hk
          obtain ⟨⟨r1, r2⟩, r3, r4⟩ := hc k hk
          have hno2 := hno k rfl hk hT hn
          have hidx2 := hidx k rfl hk hT hn
          refine G_aload_n (pc := 29) dX9_line_29 rfl rfl ?_
          refine S_getR (pc := 30) (b := 288) dX9_line_30 fX9_77 rfl rfl (by first | rfl | assumption) rfl rfl ?_
          refine G_iload_n (pc := 33) dX9_line_33 rfl rfl ?_
          refine N_aald (pc := 34) (t := 6) (n := 4) (b := 381 + 2 * k) dX9_line_34 (by first | rfl | assumption) (by first | rfl | assumption) (by decide) (by omega) rfl ?_
          refine G_astore (pc := 35) dX9_line_35 (by decide) rfl ?_
          refine G_aload (pc := 37) dX9_line_37 rfl ?_
          refine G_iload_n (pc := 39) dX9_line_39 rfl rfl ?_
          refine S_callV (av := [_]) (pc := 40) (z := mX5_refusalOf) (ci := 4) dX9_line_40 zX5_refusalOf lX9_line_111 rfl (by first | rfl | assumption) rfl rfl (sX5_refusalOf hk a1 r3 (by omega) ⟨_, rfl, ?_⟩)
          refine G_istore (pc := 43) dX9_line_43 (by decide) rfl ?_
          refine G_iload (pc := 45) dX9_line_45 rfl ?_
          refine T_if_eq (pc := 47) (tgt := 53) dX9_line_47 (by decide) (fun c47 => ?_) (fun c47 => ?_)
          · skip
            have hq := lackV_0.mp c47
            have ez : S.1 (381 + 2 * k) 1 = nI (rsN S0 k) := (a2 (by omega)).trans r1
            refine G_aload (pc := 53) dX9_line_53 rfl ?_
            refine G_iload_n (pc := 55) dX9_line_55 rfl rfl ?_
            refine G_iload (pc := 56) dX9_line_56 rfl ?_
            refine S_callV (av := [_, _]) (pc := 58) (z := mX5_holds) (ci := 4) dX9_line_58 zX5_holds lX9_line_115 rfl (by first | rfl | assumption) rfl rfl (sX5_holds hk ez r2 (by omega) ⟨_, rfl, ?_⟩)
            refine B_if_ne (pc := 61) (tgt := 67) dX9_line_61 (by decide) (fun c61 => ?_) (fun c61 => ?_)
            · skip
              rw [decide_eq_true_eq] at c61
              obtain ⟨b, ef, hbz⟩ : ∃ b, f = nI b ∧ b + z ≤ rsN S0 k := ⟨f.toInt.toNat, nI_ofT (by omega), by omega⟩
              subst ef
              have F0 : Fr scX scA S (upX S 3 1 (nI 0)) := Fr.upX ⟨rfl, rfl⟩
              refine G_aload_n (pc := 67) dX9_line_67 rfl rfl ?_
              refine S_getR (pc := 68) (b := 3) dX9_line_68 fX9_18 rfl rfl (by first | rfl | assumption) rfl rfl ?_
              refine S_callV (av := []) (pc := 71) (z := mX4_clear) (ci := 3) dX9_line_71 zX4_clear lX9_line_102 rfl (by first | rfl | assumption) rfl rfl (sX4_clear RwK_s ⟨_, rfl, ?_⟩)
              refine G_iload_n (pc := 74) dX9_line_74 rfl rfl ?_
              refine G_istore (pc := 75) dX9_line_75 (by decide) rfl ?_
              exact lineC_lp hk hz.2 (by omega) hm (hnot k b z rfl rfl rfl hk hT hz hq hbz) (hfull k b z rfl rfl rfl hk hT hz hq hbz) (hok k b z rfl rfl rfl hk hT hz hq hbz) z 0 _ (by omega) F0 ((upX_n (by omega)).trans hth) a3 RowIs.nil (fun j hj => by omega)
            · skip
              rw [decide_eq_false_iff_not] at c61
              refine G_bipush (pc := 64) (v := (-13)) dX9_line_64 (by decide) ?_
              refine S_iret (pc := 66) dX9_line_66 rfl ?_
              exact hidx2 hq (by rw [nIt (by omega)]; exact c61)
          · skip
            refine G_iload (pc := 50) dX9_line_50 rfl ?_
            refine S_iret (pc := 52) dX9_line_52 rfl ?_
            exact hno2 (fun q => c47 (lackV_0.mpr q))
        · skip
          rw [z16] at c24
          have hB : isShB s l = false ∨ ¬ (1 ≤ n.toInt ∧ n.toInt ≤ 16) := Or.inr (by omega)
          refine G_iconst (pc := 27) (v := (-1)) dX9_line_27 (by decide) ?_
          refine S_iret (pc := 28) dX9_line_28 rfl ?_
          exact hbad hB
abbrev ptX (a j : Nat) : Prop := a = 3 ∧ j = 1
abbrev ptA (k : Nat) (a : Nat) : Prop := a = 4 ∨ a = 381 + 2 * k + 1
set_option maxRecDepth 100000 in
set_option maxHeartbeats 4000000 in
theorem putC_lp {k b l : Nat} {q : List Int32} {x1 x2 x3 x7 : Int32} (hk : k < 4) (hl2 : l ≤ 2) (hql : q.length ≤ 16) (hby : LBy q) (hbq : b + q.length ≤ 20) (h : ∀ S', Fr ptX (ptA k) S S' → (∀ j, j < 20 → S'.2.1 (381 + 2 * k + 1) j = if b ≤ j ∧ j < b + q.length then q.getD (j - b) 0 else S.2.1 (381 + 2 * k + 1) j) → Q (some (aI (nI q.length))) (mk S')) :
    ∀ (d i : Nat) (S1 : ST), i + d = q.length → Fr ptX (ptA k) S S1 → S1.1 (381 + 2 * k) 2 = nI l → RwIs S1 3 q → (∀ j, j < 20 → S1.2.1 (381 + 2 * k + 1) j = if b ≤ j ∧ j < b + i then q.getD (j - b) 0 else S.2.1 (381 + 2 * k + 1) j) →
      G sc mX9_put 107 [some (aR 0), some (aI x1), some (aI x2), some (aI (nI k)), some (aI x3), some (aI (nI b)), some (aR (381 + 2 * k)), some (aI x7), some (aI (nI i))] [] (mk S1) Q := by
  obtain ⟨k1, k2⟩ := ShK_t k hk
  intro d
  induction d with
  | zero =>
    intro i S1 hi hF hl hr hj
    have e : i = q.length := by omega
    subst e
    refine G_iload (pc := 107) dX9_put_107 rfl ?_
    refine G_aload_n (pc := 109) dX9_put_109 rfl rfl ?_
    refine S_getR (pc := 110) (b := 3) dX9_put_110 fX9_18 rfl rfl (by first | rfl | assumption) rfl rfl ?_
    refine S_getI (pc := 113) dX9_put_113 fX9_92 rfl (by first | rfl | assumption) rfl ?_
    rw [hr.1]
    refine N_icmp_ge (pc := 116) (tgt := 145) dX9_put_116 (by decide) (by omega) (fun c116 => ?_) (fun c116 => absurd c116 (by omega))
    refine G_aload_n (pc := 145) dX9_put_145 rfl rfl ?_
    refine S_getR (pc := 146) (b := 3) dX9_put_146 fX9_18 rfl rfl (by first | rfl | assumption) rfl rfl ?_
    refine S_getI (pc := 149) dX9_put_149 fX9_92 rfl (by first | rfl | assumption) rfl ?_
    rw [hr.1]
    refine S_iret (pc := 152) dX9_put_152 rfl ?_
    exact h S1 hF hj
  | succ d ih =>
    intro i S1 hi hF hl hr hj
    have hqi := hby _ (getD_memI (l := q) (i := i) (by omega))
    refine G_iload (pc := 107) dX9_put_107 rfl ?_
    refine G_aload_n (pc := 109) dX9_put_109 rfl rfl ?_
    refine S_getR (pc := 110) (b := 3) dX9_put_110 fX9_18 rfl rfl (by first | rfl | assumption) rfl rfl ?_
    refine S_getI (pc := 113) dX9_put_113 fX9_92 rfl (by first | rfl | assumption) rfl ?_
    rw [hr.1]
    refine N_icmp_ge (pc := 116) (tgt := 145) dX9_put_116 (by decide) (by omega) (fun c116 => absurd c116 (by omega)) (fun c116 => ?_)
    refine G_aload (pc := 119) dX9_put_119 rfl ?_
    refine G_iload (pc := 121) dX9_put_121 rfl ?_
    refine G_iload (pc := 123) dX9_put_123 rfl ?_
    refine N_iadd (pc := 125) dX9_put_125 ?_
    refine G_aload_n (pc := 126) dX9_put_126 rfl rfl ?_
    refine S_getR (pc := 127) (b := 3) dX9_put_127 fX9_18 rfl rfl (by first | rfl | assumption) rfl rfl ?_
    refine S_getR (pc := 130) (b := 4) dX9_put_130 fX9_235 rfl rfl (by first | rfl | assumption) rfl rfl ?_
    refine G_iload (pc := 133) dX9_put_133 rfl ?_
    refine N_bald (pc := 135) dX9_put_135 (by first | rfl | assumption) (by first | rfl | assumption) (by omega) ?_
    rw [hr.2 i (by omega)]
    refine S_callV (av := [_, _]) (pc := 136) (z := mX5_write) (ci := 4) dX9_put_136 zX5_write lX9_put_232 rfl (by first | rfl | assumption) rfl rfl (sX5_write hk hl hl2 (by omega) ⟨_, rfl, ?_⟩)
    refine N_iinc (pc := 139) dX9_put_139 rfl (by decide) rfl ?_
    refine G_goto (pc := 142) (tgt := 107) dX9_put_142 (by decide) ?_
    rw [laneV_by hqi]
    have g0 : Fr ptX (ptA k) S1 (upI S1 (381 + 2 * k + 1) (b + i) (q.getD i 0)) := Fr.upI (Or.inr rfl)
    refine ih (i + 1) _ (by omega) (hF.tr g0) hl (hr.kept rfl (fun j => upI_n (by omega))) (fun j hj2 => ?_)
    by_cases e : j = b + i
    · subst e
      rw [upI_s, if_pos (by omega), show b + i - b = i by omega]
    · rw [upI_n (by omega), hj j hj2]
      by_cases z : b ≤ j ∧ j < b + i
      · rw [if_pos z, if_pos (by omega)]
      · rw [if_neg z, if_neg (by omega)]
set_option maxRecDepth 100000 in
set_option maxHeartbeats 4000000 in
theorem sX9_put {S0 : ST} {t c s l f : Int32} (ha : MIa S0) (hc : MIc S0) (hC : CTh S0 S) (hS : CSh S0 S) (hbad : isTh (thN S0) t = false ∨ isCutB c = false ∨ isShB s l = false → Q (some (aI (-1))) (mk S))
    (hno : ∀ k, s = nI k → k < 4 → isTh (thN S0) t = true → isCutB c = true → isShB s l = true → ¬ (S0.2.1 410 k).toInt = l.toInt → Q (some (aI (lackV (S0.2.1 410 k) l))) (mk S))
    (hnone : ∀ k u p, s = nI k → t = nI u → c = nI p → k < 4 → u < thN S0 → p < 4800 → isTh (thN S0) t = true → isCutB c = true → isShB s l = true → (S0.2.1 410 k).toInt = l.toInt → pcL (lnB S0 u) (szN S0 u) p = none → ∀ S', Fr scX scA S S' → Q (some (aI (-4))) (mk S'))
    (hidx : ∀ k u p q, s = nI k → t = nI u → c = nI p → k < 4 → u < thN S0 → p < 4800 → isTh (thN S0) t = true → isCutB c = true → isShB s l = true → (S0.2.1 410 k).toInt = l.toInt → pcL (lnB S0 u) (szN S0 u) p = some q → ¬ (0 ≤ f.toInt ∧ f.toInt ≤ (rsN S0 k : Int) - q.length) → ∀ S', Fr scX scA S S' → Q (some (aI (-13))) (mk S'))
    (hok : ∀ k u p q b, s = nI k → t = nI u → c = nI p → f = nI b → k < 4 → u < thN S0 → p < 4800 → isTh (thN S0) t = true → isCutB c = true → isShB s l = true → (S0.2.1 410 k).toInt = l.toInt → pcL (lnB S0 u) (szN S0 u) p = some q → b + q.length ≤ rsN S0 k → ∀ S', Fr ptX (ptA k) S S' → (∀ j, j < 20 → S'.2.1 (381 + 2 * k + 1) j = if b ≤ j ∧ j < b + q.length then q.getD (j - b) 0 else S.2.1 (381 + 2 * k + 1) j) → Q (some (aI (nI q.length))) (mk S')) : CT sc mX9_put [aR 0, aI t, aI c, aI s, aI l, aI f] (mk S) Q := by
  refine S_of (by decide) rfl ?_
  show G sc mX9_put 0 [some (aR 0), some (aI t), some (aI c), some (aI s), some (aI l), some (aI f), none, none, none] [] (mk S) Q
  have hth := thB ha
  have nb : ∀ p : Prop, ¬ p → (isShB s l = true → p) → isShB s l = false := fun p h1 h2 => by
    rcases e : isShB s l with _ | _
    · rfl
    · exact absurd (h2 e) h1
  rcases hT : isTh (thN S0) t with _ | _
  · skip
    refine G_aload_n (pc := 0) dX9_put_0 rfl rfl ?_
    refine G_iload_n (pc := 1) dX9_put_1 rfl rfl ?_
    refine S_callV (av := [_]) (pc := 2) (z := mX9_isThing) (ci := 8) dX9_put_2 zX9_isThing lX9_put_122 rfl (by first | rfl | assumption) rfl rfl (sX9_isThing hC.1 (by omega) ⟨_, rfl, ?_⟩)
    rw [hT]
    refine B_if_eq (pc := 5) (tgt := 30) dX9_put_5 (by decide) (fun c5 => ?_) (fun c5 => absurd c5 (by decide))
    refine G_iconst (pc := 30) (v := (-1)) dX9_put_30 (by decide) ?_
    refine S_iret (pc := 31) dX9_put_31 rfl ?_
    exact hbad (Or.inl hT)
  · rcases hcu : isCutB c with _ | _
    · skip
      refine G_aload_n (pc := 0) dX9_put_0 rfl rfl ?_
      refine G_iload_n (pc := 1) dX9_put_1 rfl rfl ?_
      refine S_callV (av := [_]) (pc := 2) (z := mX9_isThing) (ci := 8) dX9_put_2 zX9_isThing lX9_put_122 rfl (by first | rfl | assumption) rfl rfl (sX9_isThing hC.1 (by omega) ⟨_, rfl, ?_⟩)
      rw [hT]
      refine B_if_eq (pc := 5) (tgt := 30) dX9_put_5 (by decide) (fun c5 => absurd c5 (by decide)) (fun c5 => ?_)
      refine G_iload_n (pc := 8) dX9_put_8 rfl rfl ?_
      refine S_callS (av := [_]) (pc := 9) (z := mX9_isCut) dX9_put_9 zX9_isCut lX9_put_134 rfl (sX9_isCut ⟨_, rfl, ?_⟩)
      rw [hcu]
      refine B_if_eq (pc := 12) (tgt := 30) dX9_put_12 (by decide) (fun c12 => ?_) (fun c12 => absurd c12 (by decide))
      refine G_iconst (pc := 30) (v := (-1)) dX9_put_30 (by decide) ?_
      refine S_iret (pc := 31) dX9_put_31 rfl ?_
      exact hbad (Or.inr (Or.inl hcu))
    · have hcu2 := of_decide_eq_true hcu
      refine G_aload_n (pc := 0) dX9_put_0 rfl rfl ?_
      refine G_iload_n (pc := 1) dX9_put_1 rfl rfl ?_
      refine S_callV (av := [_]) (pc := 2) (z := mX9_isThing) (ci := 8) dX9_put_2 zX9_isThing lX9_put_122 rfl (by first | rfl | assumption) rfl rfl (sX9_isThing hC.1 (by omega) ⟨_, rfl, ?_⟩)
      rw [hT]
      refine B_if_eq (pc := 5) (tgt := 30) dX9_put_5 (by decide) (fun c5 => absurd c5 (by decide)) (fun c5 => ?_)
      refine G_iload_n (pc := 8) dX9_put_8 rfl rfl ?_
      refine S_callS (av := [_]) (pc := 9) (z := mX9_isCut) dX9_put_9 zX9_isCut lX9_put_134 rfl (sX9_isCut ⟨_, rfl, ?_⟩)
      rw [hcu]
      refine B_if_eq (pc := 12) (tgt := 30) dX9_put_12 (by decide) (fun c12 => absurd c12 (by decide)) (fun c12 => ?_)
      refine G_iload_n (pc := 15) dX9_put_15 rfl rfl ?_
      refine S_callS (av := [_]) (pc := 16) (z := mX9_isSheet) dX9_put_16 zX9_isSheet lX9_put_105 rfl (sX9_isSheet ⟨_, rfl, ?_⟩)
      refine B_if_eq (pc := 19) (tgt := 30) dX9_put_19 (by decide) (fun c19 => ?_) (fun c19 => ?_)
      · skip
        rw [decide_eq_false_iff_not] at c19
        have hB := nb _ c19 (fun e => (isShB_iff.mp e).1)
        refine G_iconst (pc := 30) (v := (-1)) dX9_put_30 (by decide) ?_
        refine S_iret (pc := 31) dX9_put_31 rfl ?_
        exact hbad (Or.inr (Or.inr hB))
      · skip
        refine G_iload (pc := 22) dX9_put_22 rfl ?_
        refine S_callS (av := [_]) (pc := 24) (z := mX9_isLane) dX9_put_24 zX9_isLane lX9_put_108 rfl (sX9_isLane ⟨_, rfl, ?_⟩)
        refine B_if_ne (pc := 27) (tgt := 32) dX9_put_27 (by decide) (fun c27 => ?_) (fun c27 => ?_)
        · skip
          rw [decide_eq_true_eq] at c19 c27
          have hSh : isShB s l = true := isShB_iff.mpr ⟨c19, c27⟩
          clear nb hbad
          obtain ⟨k, es, hk⟩ : ∃ k, s = nI k ∧ k < 4 := ⟨s.toInt.toNat, nI_ofT (by omega), by omega⟩
          obtain ⟨u, et, hu, -⟩ := isTh_k hT (by omega)
          obtain ⟨p, ep, hp⟩ : ∃ p, c = nI p ∧ p < 4800 := ⟨c.toInt.toNat, nI_ofT (by omega), by omega⟩
          subst es
          subst et
          subst ep
          obtain ⟨k1, k2⟩ := ShK_t k hk
          obtain ⟨a1, a2, a3⟩ := hS k hk
          obtain ⟨⟨r1, r2⟩, r3, r4⟩ := hc k hk
          have hK := ThK_t u (by omega)
          have hK0 := hK.1
          have hcc := (hC.2 u (by omega)).1 hu
          obtain ⟨y1, y2, y3, y4⟩ := ha.2 u hu
          have F0 : Fr scX scA S (upX S 3 1 (nI 0)) := Fr.upX ⟨rfl, rfl⟩
          refine G_aload_n (pc := 32) dX9_put_32 rfl rfl ?_
          refine S_getR (pc := 33) (b := 288) dX9_put_33 fX9_77 rfl rfl (by first | rfl | assumption) rfl rfl ?_
          refine G_iload_n (pc := 36) dX9_put_36 rfl rfl ?_
          refine N_aald (pc := 37) (t := 6) (n := 4) (b := 381 + 2 * k) dX9_put_37 (by first | rfl | assumption) (by first | rfl | assumption) (by decide) (by omega) rfl ?_
          refine G_astore (pc := 38) dX9_put_38 (by decide) rfl ?_
          refine G_aload (pc := 40) dX9_put_40 rfl ?_
          refine G_iload (pc := 42) dX9_put_42 rfl ?_
          refine S_callV (av := [_]) (pc := 44) (z := mX5_refusalOf) (ci := 4) dX9_put_44 zX5_refusalOf lX9_put_111 rfl (by first | rfl | assumption) rfl rfl (sX5_refusalOf hk a1 r3 (by omega) ⟨_, rfl, ?_⟩)
          refine G_istore (pc := 47) dX9_put_47 (by decide) rfl ?_
          refine G_iload (pc := 49) dX9_put_49 rfl ?_
          refine T_if_eq (pc := 51) (tgt := 57) dX9_put_51 (by decide) (fun c51 => ?_) (fun c51 => ?_)
          · skip
            have hq := lackV_0.mp c51
            have ez : S.1 (381 + 2 * k) 1 = nI (rsN S0 k) := (a2 (by omega)).trans r1
            obtain ⟨l1, l2⟩ := lane_n hq c27
            refine G_aload_n (pc := 57) dX9_put_57 rfl rfl ?_
            refine S_getR (pc := 58) (b := 3) dX9_put_58 fX9_18 rfl rfl (by first | rfl | assumption) rfl rfl ?_
            refine S_callV (av := []) (pc := 61) (z := mX4_clear) (ci := 3) dX9_put_61 zX4_clear lX9_put_102 rfl (by first | rfl | assumption) rfl rfl (sX4_clear RwK_s ⟨_, rfl, ?_⟩)
            refine G_aload_n (pc := 64) dX9_put_64 rfl rfl ?_
            refine S_getR (pc := 65) (b := 5) dX9_put_65 fX9_23 rfl rfl (by first | rfl | assumption) rfl rfl ?_
            refine G_iload_n (pc := 68) dX9_put_68 rfl rfl ?_
            refine N_aald (pc := 69) (t := 3) (n := 12) (b := 289 + 7 * u) dX9_put_69 (by first | rfl | assumption) (by first | rfl | assumption) (by decide) (by omega) rfl ?_
            refine G_iload_n (pc := 70) dX9_put_70 rfl rfl ?_
            refine G_aload_n (pc := 71) dX9_put_71 rfl rfl ?_
            refine S_getR (pc := 72) (b := 3) dX9_put_72 fX9_18 rfl rfl (by first | rfl | assumption) rfl rfl ?_
            refine S_callV (av := [_, _]) (pc := 75) (z := mX8_cutInto) (ci := 7) dX9_put_75 zX8_cutInto lX9_put_137 rfl (by first | rfl | assumption) rfl rfl (sX8_cutInto hK RwK_s (by omega) y3 hp (hcc.1.fr F0 (by omega) (by omega)) (hcc.2.1.fr F0 (by omega)) y4 RowIs.nil (by simp) (fun S1 q x1 x2 x3 => ⟨_, rfl, ?_⟩) (fun x1 => ⟨_, rfl, ?_⟩))
            · skip
              have x3 : RwIs S1 3 q := x3
              have hql : q.length ≤ 16 := by have := pc_len (Or.inl hp) y3 x1; rw [if_neg (by omega)] at this; exact this
              have hqb := pcL_by y4 (Or.inl hp) (byCut hp) x1
              have hS1 : Fr scX scA S S1 := F0.tr x2
              have ez1 : S1.1 (381 + 2 * k) 1 = nI (rsN S0 k) := (hS1.1 _ _ (by omega)).trans ez
              refine B_if_ne (pc := 78) (tgt := 84) dX9_put_78 (by decide) (fun c78 => ?_) (fun c78 => absurd c78 (by decide))
              refine G_aload (pc := 84) dX9_put_84 rfl ?_
              refine G_iload (pc := 86) dX9_put_86 rfl ?_
              refine G_aload_n (pc := 88) dX9_put_88 rfl rfl ?_
              refine S_getR (pc := 89) (b := 3) dX9_put_89 fX9_18 rfl rfl (by first | rfl | assumption) rfl rfl ?_
              refine S_getI (pc := 92) dX9_put_92 fX9_92 rfl (by first | rfl | assumption) rfl ?_
              rw [x3.1]
              refine S_callV (av := [_, _]) (pc := 95) (z := mX5_holds) (ci := 4) dX9_put_95 zX5_holds lX9_put_115 rfl (by first | rfl | assumption) rfl rfl (sX5_holds hk ez1 r2 (by omega) ⟨_, rfl, ?_⟩)
              refine B_if_ne (pc := 98) (tgt := 104) dX9_put_98 (by decide) (fun c98 => ?_) (fun c98 => ?_)
              · skip
                rw [decide_eq_true_eq] at c98
                obtain ⟨b, ef, hbz⟩ : ∃ b, f = nI b ∧ b + q.length ≤ rsN S0 k := ⟨f.toInt.toNat, nI_ofT (by omega), by omega⟩
                subst ef
                have hP : Fr ptX (ptA k) S S1 := hS1.mono (fun a j w => w) (fun a w => Or.inl w)
                refine G_iconst (pc := 104) (v := nI 0) dX9_put_104 (by decide) ?_
                refine G_istore (pc := 105) dX9_put_105 (by decide) rfl ?_
                refine putC_lp hk l2 hql hqb (by omega) (fun S' f1 f2 => hok k u p q b rfl rfl rfl rfl hk hu hp hT hcu hSh hq x1 hbz S' (hP.tr f1) (fun j hj => ?_)) q.length 0 S1 (by omega) Fr.rf ((hS1.1 _ _ (by omega)).trans (a1.trans l1)) x3 (fun j hj => by rw [if_neg (by omega)])
                rw [f2 j hj, hS1.2.1 _ (by omega)]
              · skip
                rw [decide_eq_false_iff_not] at c98
                refine G_bipush (pc := 101) (v := (-13)) dX9_put_101 (by decide) ?_
                refine S_iret (pc := 103) dX9_put_103 rfl ?_
                exact hidx k u p q rfl rfl rfl hk hu hp hT hcu hSh hq x1 c98 S1 hS1
            skip
            refine B_if_ne (pc := 78) (tgt := 84) dX9_put_78 (by decide) (fun c78 => absurd c78 (by decide)) (fun c78 => ?_)
            refine G_bipush (pc := 81) (v := (-4)) dX9_put_81 (by decide) ?_
            refine S_iret (pc := 83) dX9_put_83 rfl ?_
            exact hnone k u p rfl rfl rfl hk hu hp hT hcu hSh hq x1 _ F0
          · skip
            refine G_iload (pc := 54) dX9_put_54 rfl ?_
            refine S_iret (pc := 56) dX9_put_56 rfl ?_
            exact hno k rfl hk hT hcu hSh (fun q => c51 (lackV_0.mpr q))
        · skip
          rw [decide_eq_false_iff_not] at c27
          have hB := nb _ c27 (fun e => (isShB_iff.mp e).2)
          refine G_iconst (pc := 30) (v := (-1)) dX9_put_30 (by decide) ?_
          refine S_iret (pc := 31) dX9_put_31 rfl ?_
          exact hbad (Or.inr (Or.inr hB))
end C30
