/-! the class: Fit.joinPieces -/
/-- how many last pieces follow a first one that goes as far as L, behind k typed bytes -/
def trN (S : ST) (ts : List Nat) (LB : List (Nat × Nat)) (L k : Nat) : Nat := match typG S L k ts 0 0 with
  | some _ => cntB LB (L + k * stpN ts)
  | none => 0
def fbG (S : ST) (ts : List Nat) (LB : List (Nat × Nat)) (L : Nat) : Nat → Nat
  | 0 => if 0 < cntB LB L then 1 else 0
  | k + 1 => fbG S ts LB L k + (if 0 < trN S ts LB L (k + 1) then 1 else 0) * 2 ^ (k + 1)
def tsG (S : ST) (ts : List Nat) (LB : List (Nat × Nat)) (L : Nat) : Nat → Nat
  | 0 => 0
  | k + 1 => tsG S ts LB L k + trN S ts LB L (k + 1)
def prS (LB : List (Nat × Nat)) : List (Nat × Nat) → Nat
  | [] => 0
  | q :: r => cntB LB q.2 + prS LB r
def tpS (S : ST) (ts : List Nat) (LB : List (Nat × Nat)) : List (Nat × Nat) → Nat
  | [] => 0
  | q :: r => tsG S ts LB q.2 3 + tpS S ts LB r
theorem fbG_lt {S : ST} {ts : List Nat} {LB : List (Nat × Nat)} {L : Nat} : ∀ k, fbG S ts LB L k < 2 ^ (k + 1)
  | 0 => by unfold fbG; split <;> decide
  | k + 1 => by
    have := fbG_lt (S := S) (ts := ts) (LB := LB) (L := L) k
    unfold fbG
    rw [Nat.pow_succ 2 (k + 1)]
    split <;> omega
/-- first pieces with followers -/
def fjL (S : ST) (ts : List Nat) (LB FF : List (Nat × Nat)) : List (Nat × Nat) := FF.filter (fun q => !(fbG S ts LB q.2 3 == 0))
def JrIs (S0 S : ST) (ts : List Nat) (LB J : List (Nat × Nat)) : Prop := ∀ l, l < J.length → S.2.1 9 l = nI (J.getD l (0, 0)).1 ∧ S.2.1 10 l = nI (J.getD l (0, 0)).2 ∧ S.2.1 11 l = nI (fbG S0 ts LB (J.getD l (0, 0)).2 3)
abbrev jX (a j : Nat) : Prop := a = 6 ∧ (j = 9 ∨ j = 13 ∨ j = 14)
abbrev jA (a : Nat) : Prop := a = 9 ∨ a = 10 ∨ a = 11
theorem ft_j {S S' : ST} (h : Fr jX jA S S') : Fr ftX ftA S S' := h.mono (fun a j q => Or.inl ⟨q.1, by omega⟩) (fun a q => by constructor <;> omega)
theorem LaIs.j {S S' : ST} {LB : List (Nat × Nat)} {g : Nat} (h : LaIs S LB g) (f : Fr jX jA S S') : LaIs S' LB g := h.k (fun j => f.1 12 j (by omega)) (fun a h1 h2 j => f.2.1 a (by omega) j)
abbrev tpX (a j : Nat) : Prop := a = 6 ∧ j = 14
theorem j_tp {S S' : ST} (h : Fr tpX (fun _ => False) S S') : Fr jX jA S S' := h.mono (fun a j q => ⟨q.1, Or.inr (Or.inr q.2)⟩) (fun a q => q.elim)
section C11
variable {sc : SC} {S : ST} {Q : Option AV → HM → Prop}
set_option maxRecDepth 100000 in
set_option maxHeartbeats 4000000 in
theorem join_in {S0 : ST} {ts : List Nat} {LB : List (Nat × Nat)} {g L T left i dir : Nat} (hts : TsOk S0 ts) (hby : EnBy S0 ts) (h0 : ts ≠ []) (hL3 : ∀ k, k ≤ 3 → L + k * stpN ts < 65536) :
    ∀ (d k : Nat) (S : ST) (o7 : Option AV), k + d = 3 → FtH S0 S ts → LaIs S LB g → S.1 6 14 = nI (T + tsG S0 ts LB L k) →
      (∀ (S' : ST) (o7 : Option AV), Fr tpX (fun _ => False) S S' → S'.1 6 14 = nI (T + tsG S0 ts LB L 3) → G sc mX0_joinPieces 122 [some (aR 6), some (aI (nI left)), some (aI (nI i)), some (aI (nI L)), some (aI (nI dir)), some (aI (nI (fbG S0 ts LB L 3))), some (aI (nI 4)), o7] [] (mk S') Q) →
      G sc mX0_joinPieces 55 [some (aR 6), some (aI (nI left)), some (aI (nI i)), some (aI (nI L)), some (aI (nI dir)), some (aI (nI (fbG S0 ts LB L k))), some (aI (nI (k + 1))), o7] [] (mk S) Q := by
  intro d
  induction d with
  | zero =>
    intro k S o7 hk hH hLa hT h
    have e : k = 3 := by omega
    subst e
    refine G_iload (pc := 55) dX0_joinPieces_55 rfl ?_
    refine G_iconst (pc := 57) (v := nI 3) dX0_joinPieces_57 (by decide) ?_
    refine N_icmp_gt (pc := 58) (tgt := 122) dX0_joinPieces_58 (by decide) (by omega) (fun c58 => ?_) (fun c58 => absurd c58 (by omega))
    exact h S _ Fr.rf hT
  | succ d ih =>
    intro k S o7 hk hH hLa hT h
    have hb3 := hL3 (k + 1) (by omega)
    have hb0 := hL3 0 (by omega)
    have hcl := cntB_le LB (L + (k + 1) * stpN ts)
    have hll : LB.length ≤ 4803 := by obtain ⟨a1, a2, -⟩ := hLa; exact a2.2
    have hp8 : 2 ^ (k + 1) ≤ 8 := by rcases (show k = 0 ∨ k = 1 ∨ k = 2 by omega) with rfl | rfl | rfl <;> decide
    have e1 : fbG S0 ts LB L (k + 1) = fbG S0 ts LB L k + (if 0 < trN S0 ts LB L (k + 1) then 1 else 0) * 2 ^ (k + 1) := rfl
    have e2 : tsG S0 ts LB L (k + 1) = tsG S0 ts LB L k + trN S0 ts LB L (k + 1) := rfl
    have no : trN S0 ts LB L (k + 1) = 0 → ∀ o7 : Option AV, G sc mX0_joinPieces 55 [some (aR 6), some (aI (nI left)), some (aI (nI i)), some (aI (nI L)), some (aI (nI dir)), some (aI (nI (fbG S0 ts LB L k))), some (aI (nI (k + 1 + 1))), o7] [] (mk S) Q := by
      intro hz o7
      have ih2 := ih (k + 1) S o7 (by omega) hH hLa (by rw [e2, hz]; exact hT) h
      rw [e1, hz, if_neg (by omega), Nat.zero_mul, Nat.add_zero] at ih2
      exact ih2
    have hz0 : cntB LB (L + (k + 1) * stpN ts) = 0 → trN S0 ts LB L (k + 1) = 0 := fun q => by
      unfold trN
      rcases typG S0 L (k + 1) ts 0 0 with _ | p
      · rfl
      · exact q
    rcases hty : typG S0 L (k + 1) ts 0 0 with _ | p
    · have hz : trN S0 ts LB L (k + 1) = 0 := by unfold trN; rw [hty]
      refine G_iload (pc := 55) dX0_joinPieces_55 rfl ?_
      refine G_iconst (pc := 57) (v := nI 3) dX0_joinPieces_57 (by decide) ?_
      refine N_icmp_gt (pc := 58) (tgt := 122) dX0_joinPieces_58 (by decide) (by omega) (fun c58 => absurd c58 (by omega)) (fun c58 => ?_)
      refine G_aload_n (pc := 61) dX0_joinPieces_61 rfl rfl ?_
      refine S_getR (pc := 62) (b := 12) dX0_joinPieces_62 fX0_50 rfl rfl (by first | rfl | assumption) rfl rfl ?_
      refine G_iload_n (pc := 65) dX0_joinPieces_65 rfl rfl ?_
      refine G_iload (pc := 66) dX0_joinPieces_66 rfl ?_
      refine G_aload_n (pc := 68) dX0_joinPieces_68 rfl rfl ?_
      refine S_getI (pc := 69) dX0_joinPieces_69 fX0_24 rfl (by first | rfl | assumption) rfl ?_
      rw [hH.2.2.1]
      refine N_imul (pc := 72) dX0_joinPieces_72 ?_
      refine N_iadd (pc := 73) dX0_joinPieces_73 ?_
      refine S_callV (av := [_]) (pc := 74) (z := mX2_waysFrom) (ci := 1) dX0_joinPieces_74 zX2_waysFrom lX0_joinPieces_130 rfl (by first | rfl | assumption) rfl rfl (sX2_waysFrom hLa hb3 ⟨_, rfl, ?_⟩)
      refine G_istore (pc := 77) dX0_joinPieces_77 (by decide) rfl ?_
      refine G_iload (pc := 79) dX0_joinPieces_79 rfl ?_
      refine N_if_le (pc := 81) (tgt := 116) dX0_joinPieces_81 (by decide) (by omega) (fun c81 => ?_) (fun c81 => ?_)
      · skip
        refine N_iinc (pc := 116) dX0_joinPieces_116 rfl (by decide) rfl ?_
        refine G_goto (pc := 119) (tgt := 55) dX0_joinPieces_119 (by decide) ?_
        exact no hz _
      · skip
        refine G_aload_n (pc := 84) dX0_joinPieces_84 rfl rfl ?_
        refine G_iload_n (pc := 85) dX0_joinPieces_85 rfl rfl ?_
        refine G_iload (pc := 86) dX0_joinPieces_86 rfl ?_
        refine S_callV (av := [_, _]) (pc := 88) (z := mX0_typedIn) (ci := 0) dX0_joinPieces_88 zX0_typedIn lX0_joinPieces_115 rfl (by first | rfl | assumption) rfl rfl (sX0_typedIn (by omega) (by omega) hts hby h0 hH ⟨_, rfl, ?_⟩)
        rw [hty]
        refine G_bipush (pc := 91) (v := (-4)) dX0_joinPieces_91 (by decide) ?_
        refine T_icmp_eq (pc := 93) (tgt := 116) dX0_joinPieces_93 (by decide) (fun c93 => ?_) (fun c93 => absurd c93 (by decide))
        refine N_iinc (pc := 116) dX0_joinPieces_116 rfl (by decide) rfl ?_
        refine G_goto (pc := 119) (tgt := 55) dX0_joinPieces_119 (by decide) ?_
        exact no hz _
    · have hz : trN S0 ts LB L (k + 1) = cntB LB (L + (k + 1) * stpN ts) := by unfold trN; rw [hty]
      have hpl := typG_lt (by omega) ts 0 0 p hby (by omega) hty
      have hfl := fbG_lt (S := S0) (ts := ts) (LB := LB) (L := L) k
      refine G_iload (pc := 55) dX0_joinPieces_55 rfl ?_
      refine G_iconst (pc := 57) (v := nI 3) dX0_joinPieces_57 (by decide) ?_
      refine N_icmp_gt (pc := 58) (tgt := 122) dX0_joinPieces_58 (by decide) (by omega) (fun c58 => absurd c58 (by omega)) (fun c58 => ?_)
      refine G_aload_n (pc := 61) dX0_joinPieces_61 rfl rfl ?_
      refine S_getR (pc := 62) (b := 12) dX0_joinPieces_62 fX0_50 rfl rfl (by first | rfl | assumption) rfl rfl ?_
      refine G_iload_n (pc := 65) dX0_joinPieces_65 rfl rfl ?_
      refine G_iload (pc := 66) dX0_joinPieces_66 rfl ?_
      refine G_aload_n (pc := 68) dX0_joinPieces_68 rfl rfl ?_
      refine S_getI (pc := 69) dX0_joinPieces_69 fX0_24 rfl (by first | rfl | assumption) rfl ?_
      rw [hH.2.2.1]
      refine N_imul (pc := 72) dX0_joinPieces_72 ?_
      refine N_iadd (pc := 73) dX0_joinPieces_73 ?_
      refine S_callV (av := [_]) (pc := 74) (z := mX2_waysFrom) (ci := 1) dX0_joinPieces_74 zX2_waysFrom lX0_joinPieces_130 rfl (by first | rfl | assumption) rfl rfl (sX2_waysFrom hLa hb3 ⟨_, rfl, ?_⟩)
      refine G_istore (pc := 77) dX0_joinPieces_77 (by decide) rfl ?_
      refine G_iload (pc := 79) dX0_joinPieces_79 rfl ?_
      refine N_if_le (pc := 81) (tgt := 116) dX0_joinPieces_81 (by decide) (by omega) (fun c81 => ?_) (fun c81 => ?_)
      · skip
        refine N_iinc (pc := 116) dX0_joinPieces_116 rfl (by decide) rfl ?_
        refine G_goto (pc := 119) (tgt := 55) dX0_joinPieces_119 (by decide) ?_
        first
        | exact no (hz0 c81) _
        | (have g0 : Fr tpX (fun _ => False) S (upX S 6 14 (nI (T + tsG S0 ts LB L k + cntB LB (L + (k + 1) * stpN ts)))) := Fr.upX ⟨rfl, rfl⟩
           have ih2 := ih (k + 1) _ (some (aI (nI (cntB LB (L + (k + 1) * stpN ts))))) (by omega) (hH.fr (ft_j (j_tp g0))) (hLa.j (j_tp g0)) (by rw [upX_s, e2, hz, Nat.add_assoc]) (fun S' o7 w1 w2 => h S' o7 (g0.tr w1) w2)
           rw [e1, hz, if_pos (by omega)] at ih2
           exact ih2)
      · skip
        refine G_aload_n (pc := 84) dX0_joinPieces_84 rfl rfl ?_
        refine G_iload_n (pc := 85) dX0_joinPieces_85 rfl rfl ?_
        refine G_iload (pc := 86) dX0_joinPieces_86 rfl ?_
        refine S_callV (av := [_, _]) (pc := 88) (z := mX0_typedIn) (ci := 0) dX0_joinPieces_88 zX0_typedIn lX0_joinPieces_115 rfl (by first | rfl | assumption) rfl rfl (sX0_typedIn (by omega) (by omega) hts hby h0 hH ⟨_, rfl, ?_⟩)
        rw [hty, oI_s]
        refine G_bipush (pc := 91) (v := (-4)) dX0_joinPieces_91 (by decide) ?_
        refine T_icmp_eq (pc := 93) (tgt := 116) dX0_joinPieces_93 (by decide) (fun c93 => absurd c93 (by rw [nIt (by omega)]; show ¬ (p : Int) = -4; omega)) (fun c93 => ?_)
        refine G_iload (pc := 96) dX0_joinPieces_96 rfl ?_
        refine G_iconst (pc := 98) (v := nI 1) dX0_joinPieces_98 (by decide) ?_
        refine G_iload (pc := 99) dX0_joinPieces_99 rfl ?_
        refine G_ishl (pc := 101) dX0_joinPieces_101 ?_
        rw [shlN (by omega) (by omega)]
        refine G_ior (pc := 102) dX0_joinPieces_102 ?_
        rw [orN 1 hfl]
        refine G_istore (pc := 103) dX0_joinPieces_103 (by decide) rfl ?_
        refine G_aload_n (pc := 105) dX0_joinPieces_105 rfl rfl ?_
        refine G_dup (pc := 106) dX0_joinPieces_106 rfl ?_
        refine S_getI (pc := 107) dX0_joinPieces_107 fX0_63 rfl (by first | rfl | assumption) rfl ?_
        rw [hT]
        refine G_iload (pc := 110) dX0_joinPieces_110 rfl ?_
        refine N_iadd (pc := 112) dX0_joinPieces_112 ?_
        refine S_putI (pc := 113) dX0_joinPieces_113 fX0_63 (by decide) rfl (by first | rfl | assumption) rfl ?_
        refine N_iinc (pc := 116) dX0_joinPieces_116 rfl (by decide) rfl ?_
        refine G_goto (pc := 119) (tgt := 55) dX0_joinPieces_119 (by decide) ?_
        first
        | exact no (hz0 c81) _
        | (have g0 : Fr tpX (fun _ => False) S (upX S 6 14 (nI (T + tsG S0 ts LB L k + cntB LB (L + (k + 1) * stpN ts)))) := Fr.upX ⟨rfl, rfl⟩
           have ih2 := ih (k + 1) _ (some (aI (nI (cntB LB (L + (k + 1) * stpN ts))))) (by omega) (hH.fr (ft_j (j_tp g0))) (hLa.j (j_tp g0)) (by rw [upX_s, e2, hz, Nat.add_assoc]) (fun S' o7 w1 w2 => h S' o7 (g0.tr w1) w2)
           rw [e1, hz, if_pos (by omega)] at ih2
           exact ih2)
set_option maxRecDepth 100000 in
set_option maxHeartbeats 4000000 in
theorem join_lp {S0 : ST} {ts : List Nat} {LB : List (Nat × Nat)} {g n : Nat} (hts : TsOk S0 ts) (hby : EnBy S0 ts) (h0 : ts ≠ []) (hn : n ≤ 4803) :
    ∀ (r : List (Nat × Nat)) (i P T : Nat) (J : List (Nat × Nat)) (S : ST) (o3 o4 o5 o6 o7 : Option AV), i + r.length = n → S.1 6 9 = nI n → J.length ≤ i → JrIs S0 S ts LB J → (∀ l, l < r.length → S.2.1 9 (i + l) = nI (r.getD l (0, 0)).1 ∧ S.2.1 10 (i + l) = nI (r.getD l (0, 0)).2) → (∀ q ∈ r, ∀ k, k ≤ 3 → q.2 + k * stpN ts < 65536) → FtH S0 S ts → LaIs S LB g → S.1 6 13 = nI P → S.1 6 14 = nI T →
      (∀ S', Fr jX jA S S' → S'.1 6 9 = nI (J ++ fjL S0 ts LB r).length → JrIs S0 S' ts LB (J ++ fjL S0 ts LB r) → S'.1 6 13 = nI (P + prS LB r) → S'.1 6 14 = nI (T + tpS S0 ts LB r) → Q none (mk S')) →
      G sc mX0_joinPieces 4 [some (aR 6), some (aI (nI J.length)), some (aI (nI i)), o3, o4, o5, o6, o7] [] (mk S) Q := by
  intro r
  induction r with
  | nil =>
    intro i P T J S o3 o4 o5 o6 o7 hi h9 hJl hJ hr hb hH hLa hP hT h
    have hi : i + 0 = n := hi
    refine G_iload_n (pc := 4) dX0_joinPieces_4 rfl rfl ?_
    refine G_aload_n (pc := 5) dX0_joinPieces_5 rfl rfl ?_
    refine S_getI (pc := 6) dX0_joinPieces_6 fX0_46 rfl (by first | rfl | assumption) rfl ?_
    rw [h9]
    refine N_icmp_ge (pc := 9) (tgt := 164) dX0_joinPieces_9 (by decide) (by omega) (fun c9 => ?_) (fun c9 => absurd c9 (by omega))
    refine G_aload_n (pc := 164) dX0_joinPieces_164 rfl rfl ?_
    refine G_iload_n (pc := 165) dX0_joinPieces_165 rfl rfl ?_
    refine S_putI (pc := 166) dX0_joinPieces_166 fX0_46 (by decide) rfl (by first | rfl | assumption) rfl ?_
    refine S_vret (pc := 169) dX0_joinPieces_169 rfl ?_
    refine h _ (Fr.upX ⟨rfl, Or.inl rfl⟩) (by rw [upX_s]; simp [fjL]) ?_ ((upX_n (by omega)).trans hP) ((upX_n (by omega)).trans hT)
    rw [show J ++ fjL S0 ts LB [] = J by simp [fjL]]
    exact hJ
  | cons q r ih =>
    intro i P T J S o3 o4 o5 o6 o7 hi h9 hJl hJ hr hb hH hLa hP hT h
    have hi : i + (r.length + 1) = n := hi
    have hr0 := hr 0 (by simp)
    have hr0 : S.2.1 9 i = nI q.1 ∧ S.2.1 10 i = nI q.2 := hr0
    have hq := hb q List.mem_cons_self
    have hq0 := hq 0 (by omega)
    have hcl := cntB_le LB q.2
    have hll : LB.length ≤ 4803 := by obtain ⟨a1, a2, -⟩ := hLa; exact a2.2
    have K55 : ∀ b0 S1 (o7 : Option AV), b0 = fbG S0 ts LB q.2 0 → Fr jX jA S S1 → (∀ j, S1.1 6 j = (upX S 6 13 (nI (P + cntB LB q.2))).1 6 j) → (∀ a j, S1.2.1 a j = S.2.1 a j) → G sc mX0_joinPieces 55 [some (aR 6), some (aI (nI J.length)), some (aI (nI i)), some (aI (nI q.2)), some (aI (nI (cntB LB q.2))), some (aI (nI b0)), some (aI (nI 1)), o7] [] (mk S1) Q := by
      intro b0 S1 o7 hb0 g1 g2 g3
      subst hb0
      refine join_in hts hby h0 hq 3 0 S1 o7 (by omega) (hH.fr (ft_j g1)) (hLa.j g1) (T := T) (by rw [g2, upX_n (by omega)]; exact hT) (fun S2 o7 w1 w2 => ?_)
      have g4 := g1.tr (j_tp w1)
      have r1 : ∀ a j, S2.2.1 a j = S.2.1 a j := fun a j => (w1.2.1 a (fun z => z) j).trans (g3 a j)
      have x9 : S2.1 6 9 = nI n := by rw [w1.1 6 9 (by omega), g2, upX_n (by omega)]; exact h9
      have x13 : S2.1 6 13 = nI (P + cntB LB q.2) := by rw [w1.1 6 13 (by omega), g2, upX_s]
      have hJ2 : JrIs S0 S2 ts LB J := fun l hl => by rw [r1, r1, r1]; exact hJ l hl
      have hr2 : ∀ l, l < r.length → S2.2.1 9 (i + 1 + l) = nI (r.getD l (0, 0)).1 ∧ S2.2.1 10 (i + 1 + l) = nI (r.getD l (0, 0)).2 := fun l hl => by
        rw [r1, r1, show i + 1 + l = i + (l + 1) by omega]
        exact hr (l + 1) (by simp; omega)
      have hfl := fbG_lt (S := S0) (ts := ts) (LB := LB) (L := q.2) 3
      have hfl : fbG S0 ts LB q.2 3 < 16 := hfl
      have e1 : prS LB (q :: r) = cntB LB q.2 + prS LB r := rfl
      have e2 : tpS S0 ts LB (q :: r) = tsG S0 ts LB q.2 3 + tpS S0 ts LB r := rfl
      rw [e1, e2, ← Nat.add_assoc, ← Nat.add_assoc] at h
      refine G_iload (pc := 122) dX0_joinPieces_122 rfl ?_
      refine N_if_eq (pc := 124) (tgt := 158) dX0_joinPieces_124 (by decide) (by omega) (fun c124 => ?_) (fun c124 => ?_)
      · skip
        refine N_iinc (pc := 158) dX0_joinPieces_158 rfl (by decide) rfl ?_
        refine G_goto (pc := 161) (tgt := 4) dX0_joinPieces_161 (by decide) ?_
        first
        | (have e3 : fjL S0 ts LB (q :: r) = fjL S0 ts LB r := by unfold fjL; rw [List.filter_cons_of_neg (by simp [c124])]
           rw [e3] at h
           exact ih (i + 1) _ _ J S2 _ _ _ _ _ (by omega) x9 (by omega) hJ2 hr2 (fun x hx => hb x (List.mem_cons_of_mem _ hx)) (hH.fr (ft_j g4)) (hLa.j g4) x13 w2 (fun S' y1 y2 y3 y4 y5 => h S' (g4.tr y1) y2 y3 y4 y5))
        | (have e3 : fjL S0 ts LB (q :: r) = q :: fjL S0 ts LB r := by unfold fjL; rw [List.filter_cons_of_pos (by simp [c124])]
           rw [e3] at h
           have g5 : Fr jX jA S2 (upI (upI (upI S2 9 J.length (nI q.1)) 10 J.length (nI q.2)) 11 J.length (nI (fbG S0 ts LB q.2 3))) := Fr.tr (Fr.tr (Fr.upI (Or.inl rfl)) (Fr.upI (Or.inr (Or.inl rfl)))) (Fr.upI (Or.inr (Or.inr rfl)))
           have g6 := g4.tr g5
           have ih2 := ih (i + 1) (P + cntB LB q.2) (T + tsG S0 ts LB q.2 3) (J ++ [q]) (upI (upI (upI S2 9 J.length (nI q.1)) 10 J.length (nI q.2)) 11 J.length (nI (fbG S0 ts LB q.2 3))) (some (aI (nI q.2))) (some (aI (nI (cntB LB q.2)))) (some (aI (nI (fbG S0 ts LB q.2 3)))) (some (aI (nI 4))) o7 (by omega) x9 (by simp; omega) (fun l hl => by
               by_cases z : l = J.length
               · subst z
                 rw [getD_last, upI_n (by omega), upI_n (by omega), upI_s, upI_n (by omega), upI_s, upI_s]
                 exact ⟨rfl, rfl, rfl⟩
               · have hl : l < J.length := by simp at hl; omega
                 rw [getD_app hl, upI_n (by omega), upI_n (by omega), upI_n (by omega), upI_n (by omega), upI_n (by omega), upI_n (by omega), upI_n (by omega), upI_n (by omega), upI_n (by omega)]
                 exact hJ2 l hl) (fun l hl => by
               rw [upI_n (by omega), upI_n (by omega), upI_n (by omega), upI_n (by omega), upI_n (by omega), upI_n (by omega)]
               exact hr2 l hl) (fun x hx => hb x (List.mem_cons_of_mem _ hx)) (hH.fr (ft_j g6)) (hLa.j g6) x13 w2 (fun S' y1 y2 y3 y4 y5 => h S' (g6.tr y1) (by rw [List.append_assoc] at y2; exact y2) (by rw [List.append_assoc] at y3; exact y3) y4 y5)
           rw [show (J ++ [q]).length = J.length + 1 by simp] at ih2
           exact ih2)
      · skip
        refine G_aload_n (pc := 127) dX0_joinPieces_127 rfl rfl ?_
        refine S_getR (pc := 128) (b := 9) dX0_joinPieces_128 fX0_36 rfl rfl (by first | rfl | assumption) rfl rfl ?_
        refine G_iload_n (pc := 131) dX0_joinPieces_131 rfl rfl ?_
        refine G_aload_n (pc := 132) dX0_joinPieces_132 rfl rfl ?_
        refine S_getR (pc := 133) (b := 9) dX0_joinPieces_133 fX0_36 rfl rfl (by first | rfl | assumption) rfl rfl ?_
        refine G_iload_n (pc := 136) dX0_joinPieces_136 rfl rfl ?_
        refine N_iald (pc := 137) dX0_joinPieces_137 (by first | rfl | assumption) (by first | rfl | assumption) (by omega) ?_
        rw [show S2.2.1 9 i = nI q.1 from (r1 9 i).trans hr0.1]
        refine N_iast (pc := 138) dX0_joinPieces_138 (by first | rfl | assumption) (by first | rfl | assumption) (by omega) ?_
        refine G_aload_n (pc := 139) dX0_joinPieces_139 rfl rfl ?_
        refine S_getR (pc := 140) (b := 10) dX0_joinPieces_140 fX0_39 rfl rfl (by first | rfl | assumption) rfl rfl ?_
        refine G_iload_n (pc := 143) dX0_joinPieces_143 rfl rfl ?_
        refine G_iload_n (pc := 144) dX0_joinPieces_144 rfl rfl ?_
        refine N_iast (pc := 145) dX0_joinPieces_145 (by first | rfl | assumption) (by first | rfl | assumption) (by omega) ?_
        refine G_aload_n (pc := 146) dX0_joinPieces_146 rfl rfl ?_
        refine S_getR (pc := 147) (b := 11) dX0_joinPieces_147 fX0_42 rfl rfl (by first | rfl | assumption) rfl rfl ?_
        refine G_iload_n (pc := 150) dX0_joinPieces_150 rfl rfl ?_
        refine G_iload (pc := 151) dX0_joinPieces_151 rfl ?_
        refine G_i2b (pc := 153) dX0_joinPieces_153 ?_
        rw [by8n (by omega)]
        refine N_bast (pc := 154) dX0_joinPieces_154 (by first | rfl | assumption) (by first | rfl | assumption) (by omega) ?_
        rw [by8n (by omega)]
        refine N_iinc (pc := 155) dX0_joinPieces_155 rfl (by decide) rfl ?_
        refine N_iinc (pc := 158) dX0_joinPieces_158 rfl (by decide) rfl ?_
        refine G_goto (pc := 161) (tgt := 4) dX0_joinPieces_161 (by decide) ?_
        first
        | (have e3 : fjL S0 ts LB (q :: r) = fjL S0 ts LB r := by unfold fjL; rw [List.filter_cons_of_neg (by simp [c124])]
           rw [e3] at h
           exact ih (i + 1) _ _ J S2 _ _ _ _ _ (by omega) x9 (by omega) hJ2 hr2 (fun x hx => hb x (List.mem_cons_of_mem _ hx)) (hH.fr (ft_j g4)) (hLa.j g4) x13 w2 (fun S' y1 y2 y3 y4 y5 => h S' (g4.tr y1) y2 y3 y4 y5))
        | (have e3 : fjL S0 ts LB (q :: r) = q :: fjL S0 ts LB r := by unfold fjL; rw [List.filter_cons_of_pos (by simp [c124])]
           rw [e3] at h
           have g5 : Fr jX jA S2 (upI (upI (upI S2 9 J.length (nI q.1)) 10 J.length (nI q.2)) 11 J.length (nI (fbG S0 ts LB q.2 3))) := Fr.tr (Fr.tr (Fr.upI (Or.inl rfl)) (Fr.upI (Or.inr (Or.inl rfl)))) (Fr.upI (Or.inr (Or.inr rfl)))
           have g6 := g4.tr g5
           have ih2 := ih (i + 1) (P + cntB LB q.2) (T + tsG S0 ts LB q.2 3) (J ++ [q]) (upI (upI (upI S2 9 J.length (nI q.1)) 10 J.length (nI q.2)) 11 J.length (nI (fbG S0 ts LB q.2 3))) (some (aI (nI q.2))) (some (aI (nI (cntB LB q.2)))) (some (aI (nI (fbG S0 ts LB q.2 3)))) (some (aI (nI 4))) o7 (by omega) x9 (by simp; omega) (fun l hl => by
               by_cases z : l = J.length
               · subst z
                 rw [getD_last, upI_n (by omega), upI_n (by omega), upI_s, upI_n (by omega), upI_s, upI_s]
                 exact ⟨rfl, rfl, rfl⟩
               · have hl : l < J.length := by simp at hl; omega
                 rw [getD_app hl, upI_n (by omega), upI_n (by omega), upI_n (by omega), upI_n (by omega), upI_n (by omega), upI_n (by omega), upI_n (by omega), upI_n (by omega), upI_n (by omega)]
                 exact hJ2 l hl) (fun l hl => by
               rw [upI_n (by omega), upI_n (by omega), upI_n (by omega), upI_n (by omega), upI_n (by omega), upI_n (by omega)]
               exact hr2 l hl) (fun x hx => hb x (List.mem_cons_of_mem _ hx)) (hH.fr (ft_j g6)) (hLa.j g6) x13 w2 (fun S' y1 y2 y3 y4 y5 => h S' (g6.tr y1) (by rw [List.append_assoc] at y2; exact y2) (by rw [List.append_assoc] at y3; exact y3) y4 y5)
           rw [show (J ++ [q]).length = J.length + 1 by simp] at ih2
           exact ih2)
    have e0 : fbG S0 ts LB q.2 0 = if 0 < cntB LB q.2 then 1 else 0 := rfl
    refine G_iload_n (pc := 4) dX0_joinPieces_4 rfl rfl ?_
    refine G_aload_n (pc := 5) dX0_joinPieces_5 rfl rfl ?_
    refine S_getI (pc := 6) dX0_joinPieces_6 fX0_46 rfl (by first | rfl | assumption) rfl ?_
    rw [h9]
    refine N_icmp_ge (pc := 9) (tgt := 164) dX0_joinPieces_9 (by decide) (by omega) (fun c9 => absurd c9 (by omega)) (fun c9 => ?_)
    refine G_aload_n (pc := 12) dX0_joinPieces_12 rfl rfl ?_
    refine S_getR (pc := 13) (b := 10) dX0_joinPieces_13 fX0_39 rfl rfl (by first | rfl | assumption) rfl rfl ?_
    refine G_iload_n (pc := 16) dX0_joinPieces_16 rfl rfl ?_
    refine N_iald (pc := 17) dX0_joinPieces_17 (by first | rfl | assumption) (by first | rfl | assumption) (by omega) ?_
    rw [hr0.2]
    refine G_istore_n (pc := 18) dX0_joinPieces_18 rfl (by decide) rfl ?_
    refine G_aload_n (pc := 19) dX0_joinPieces_19 rfl rfl ?_
    refine S_getR (pc := 20) (b := 12) dX0_joinPieces_20 fX0_50 rfl rfl (by first | rfl | assumption) rfl rfl ?_
    refine G_iload_n (pc := 23) dX0_joinPieces_23 rfl rfl ?_
    refine S_callV (av := [_]) (pc := 24) (z := mX2_waysFrom) (ci := 1) dX0_joinPieces_24 zX2_waysFrom lX0_joinPieces_130 rfl (by first | rfl | assumption) rfl rfl (sX2_waysFrom hLa (by omega) ⟨_, rfl, ?_⟩)
    refine G_istore (pc := 27) dX0_joinPieces_27 (by decide) rfl ?_
    refine G_iload (pc := 29) dX0_joinPieces_29 rfl ?_
    refine N_if_le (pc := 31) (tgt := 38) dX0_joinPieces_31 (by decide) (by omega) (fun c31 => ?_) (fun c31 => ?_)
    · skip
      refine G_iconst (pc := 38) (v := nI 0) dX0_joinPieces_38 (by decide) ?_
      refine G_istore (pc := 39) dX0_joinPieces_39 (by decide) rfl ?_
      refine G_aload_n (pc := 41) dX0_joinPieces_41 rfl rfl ?_
      refine G_dup (pc := 42) dX0_joinPieces_42 rfl ?_
      refine S_getI (pc := 43) dX0_joinPieces_43 fX0_60 rfl (by first | rfl | assumption) rfl ?_
      rw [hP]
      refine G_iload (pc := 46) dX0_joinPieces_46 rfl ?_
      refine N_iadd (pc := 48) dX0_joinPieces_48 ?_
      refine S_putI (pc := 49) dX0_joinPieces_49 fX0_60 (by decide) rfl (by first | rfl | assumption) rfl ?_
      refine G_iconst (pc := 52) (v := nI 1) dX0_joinPieces_52 (by decide) ?_
      refine G_istore (pc := 53) dX0_joinPieces_53 (by decide) rfl ?_
      first
      | exact K55 1 _ _ (by rw [e0, if_pos (by omega)]) (Fr.upX ⟨rfl, Or.inr (Or.inl rfl)⟩) (fun _ => rfl) (fun _ _ => rfl)
      | exact K55 0 _ _ (by rw [e0, if_neg (by omega)]) (Fr.upX ⟨rfl, Or.inr (Or.inl rfl)⟩) (fun _ => rfl) (fun _ _ => rfl)
    · skip
      refine G_iconst (pc := 34) (v := nI 1) dX0_joinPieces_34 (by decide) ?_
      refine G_goto (pc := 35) (tgt := 39) dX0_joinPieces_35 (by decide) ?_
      refine G_istore (pc := 39) dX0_joinPieces_39 (by decide) rfl ?_
      refine G_aload_n (pc := 41) dX0_joinPieces_41 rfl rfl ?_
      refine G_dup (pc := 42) dX0_joinPieces_42 rfl ?_
      refine S_getI (pc := 43) dX0_joinPieces_43 fX0_60 rfl (by first | rfl | assumption) rfl ?_
      rw [hP]
      refine G_iload (pc := 46) dX0_joinPieces_46 rfl ?_
      refine N_iadd (pc := 48) dX0_joinPieces_48 ?_
      refine S_putI (pc := 49) dX0_joinPieces_49 fX0_60 (by decide) rfl (by first | rfl | assumption) rfl ?_
      refine G_iconst (pc := 52) (v := nI 1) dX0_joinPieces_52 (by decide) ?_
      refine G_istore (pc := 53) dX0_joinPieces_53 (by decide) rfl ?_
      first
      | exact K55 1 _ _ (by rw [e0, if_pos (by omega)]) (Fr.upX ⟨rfl, Or.inr (Or.inl rfl)⟩) (fun _ => rfl) (fun _ _ => rfl)
      | exact K55 0 _ _ (by rw [e0, if_neg (by omega)]) (Fr.upX ⟨rfl, Or.inr (Or.inl rfl)⟩) (fun _ => rfl) (fun _ _ => rfl)
set_option maxRecDepth 100000 in
set_option maxHeartbeats 4000000 in
theorem sX0_joinPieces {S0 : ST} {ts : List Nat} {LB FF : List (Nat × Nat)} {g : Nat} (hts : TsOk S0 ts) (hby : EnBy S0 ts) (h0 : ts ≠ []) (hH : FtH S0 S ts) (hLa : LaIs S LB g) (hF : FsIs S FF) (hn : FF.length ≤ 4803) (hb : ∀ q ∈ FF, ∀ k, k ≤ 3 → q.2 + k * stpN ts < 65536) (hP : S.1 6 13 = nI 0) (hT : S.1 6 14 = nI 0)
    (h : ∀ S', Fr jX jA S S' → S'.1 6 9 = nI (fjL S0 ts LB FF).length → JrIs S0 S' ts LB (fjL S0 ts LB FF) → S'.1 6 13 = nI (prS LB FF) → S'.1 6 14 = nI (tpS S0 ts LB FF) → Q none (mk S')) : CT sc mX0_joinPieces [aR 6] (mk S) Q := by
  refine S_of (by decide) rfl ?_
  show G sc mX0_joinPieces 0 [some (aR 6), none, none, none, none, none, none, none] [] (mk S) Q
  refine G_iconst (pc := 0) (v := nI 0) dX0_joinPieces_0 (by decide) ?_
  refine G_istore_n (pc := 1) dX0_joinPieces_1 rfl (by decide) rfl ?_
  refine G_iconst (pc := 2) (v := nI 0) dX0_joinPieces_2 (by decide) ?_
  refine G_istore_n (pc := 3) dX0_joinPieces_3 rfl (by decide) rfl ?_
  exact join_lp hts hby h0 hn FF 0 0 0 [] S _ _ _ _ _ (by omega) hF.1 (by simp) (fun l hl => by simp at hl) (fun l hl => by rw [Nat.zero_add]; exact hF.2 l hl) hb hH hLa hP hT (fun S' y1 y2 y3 y4 y5 => h S' y1 y2 y3 (by rw [Nat.zero_add] at y4; exact y4) (by rw [Nat.zero_add] at y5; exact y5))
end C11
