/-! the model: makePiece, byteOf, made, byteAt, place -/
section M5
variable {sc : SC} {S : ST} {Q : Option AV → HM → Prop}
theorem pcL_typ {b : Nat → Int32} {n p : Nat} (h : 16777216 ≤ p) : pcL b n p = some (typF p (p / 16777216)) := by unfold pcL; rw [if_pos h]
theorem pcL_cut {b : Nat → Int32} {n p f t : Nat} (h : p < 4800) (hf : pl b n (p / 120) = some f) (ht : pl b n (p / 3 % 40) = some t) : pcL b n p = if f < t then some (cutF b (p % 3) (t - f) f) else none := by
  unfold pcL
  rw [if_neg (by omega), hf, ht]
theorem pcL_n1 {b : Nat → Int32} {n p : Nat} (h : p < 4800) (hf : pl b n (p / 120) = none) : pcL b n p = none := by
  unfold pcL
  rw [if_neg (by omega), hf]
theorem pcL_n2 {b : Nat → Int32} {n p f : Nat} (h : p < 4800) (hf : pl b n (p / 120) = some f) (ht : pl b n (p / 3 % 40) = none) : pcL b n p = none := by
  unfold pcL
  rw [if_neg (by omega), hf, ht]
/-- a piece's number -/
def isPc (p : Nat) : Prop := p < 4800 ∨ (16777216 ≤ p ∧ p < 67108864)
set_option maxRecDepth 100000 in
set_option maxHeartbeats 4000000 in
theorem sX10_makePiece {t p n : Nat} {l : List Int32} (ht : t < 12) (hsz : S.2.1 391 t = nI n) (hn : n ≤ 16) (hp : isPc p) (hl : OutIs S l) (hlen : l.length ≤ 20)
    (h1 : ∀ S' q, pcL (fun j => S.2.1 390 (16 * t + j)) n p = some q → Fr oX oA S S' → OutIs S' (l ++ q) → Q (some (aI (bI true))) (mk S')) (h0 : pcL (fun j => S.2.1 390 (16 * t + j)) n p = none → Q (some (aI (bI false))) (mk S)) : CT sc mX10_makePiece [aR 389, aI (nI t), aI (nI p)] (mk S) Q := by
  refine S_of (by decide) rfl ?_
  show G sc mX10_makePiece 0 [some (aR 389), some (aI (nI t)), some (aI (nI p)), none, none, none] [] (mk S) Q
  have hp2 : p < 67108864 := by rcases hp with h | h <;> omega
  have hk : (16777216 : Int32) = nI 16777216 := rfl
  refine G_iload_n (pc := 0) dX10_makePiece_0 rfl rfl ?_
  refine G_ldc (pc := 1) dX10_makePiece_1 kX10_149 ?_
  rw [hk]
  refine N_icmp_lt (pc := 3) (tgt := 54) dX10_makePiece_3 (by decide) (by omega) (fun c3 => ?_) (fun c3 => ?_)
  · skip
    have hp3 : p < 4800 := by rcases hp with h | h <;> omega
    refine G_aload_n (pc := 54) dX10_makePiece_54 rfl rfl ?_
    refine G_iload_n (pc := 55) dX10_makePiece_55 rfl rfl ?_
    refine G_iload_n (pc := 56) dX10_makePiece_56 rfl rfl ?_
    refine G_bipush (pc := 57) (v := nI 120) dX10_makePiece_57 (by decide) ?_
    refine N_idiv (pc := 59) dX10_makePiece_59 (by omega) ?_
    refine S_callV (av := [_, _]) (pc := 60) (z := mX10_placeOf) (ci := 9) dX10_makePiece_60 zX10_placeOf lX10_makePiece_145 rfl (by first | rfl | assumption) rfl rfl (sX10_placeOf ht hsz hn (by omega) ⟨_, rfl, ?_⟩)
    refine G_istore_n (pc := 63) dX10_makePiece_63 rfl (by decide) rfl ?_
    refine G_aload_n (pc := 64) dX10_makePiece_64 rfl rfl ?_
    refine G_iload_n (pc := 65) dX10_makePiece_65 rfl rfl ?_
    refine G_iload_n (pc := 66) dX10_makePiece_66 rfl rfl ?_
    refine G_iconst (pc := 67) (v := nI 3) dX10_makePiece_67 (by decide) ?_
    refine N_idiv (pc := 68) dX10_makePiece_68 (by omega) ?_
    refine G_bipush (pc := 69) (v := nI 40) dX10_makePiece_69 (by decide) ?_
    refine N_irem (pc := 71) dX10_makePiece_71 (by omega) ?_
    refine S_callV (av := [_, _]) (pc := 72) (z := mX10_placeOf) (ci := 9) dX10_makePiece_72 zX10_placeOf lX10_makePiece_145 rfl (by first | rfl | assumption) rfl rfl (sX10_placeOf ht hsz hn (by omega) ⟨_, rfl, ?_⟩)
    refine G_istore (pc := 75) dX10_makePiece_75 (by decide) rfl ?_
    rcases hf : pl (fun j => S.2.1 390 (16 * t + j)) n (p / 120) with _ | f
    · skip
      refine G_iload_n (pc := 77) dX10_makePiece_77 rfl rfl ?_
      refine T_if_lt (pc := 78) (tgt := 87) dX10_makePiece_78 (by decide) (fun c78 => ?_) (fun c78 => absurd c78 (by decide))
      refine G_iconst (pc := 87) (v := nI 0) dX10_makePiece_87 (by decide) ?_
      refine S_zret (pc := 88) dX10_makePiece_88 rfl rfl ?_
      exact h0 (pcL_n1 hp3 hf)
    · have hf2 := pl_le hf
      rcases hto : pl (fun j => S.2.1 390 (16 * t + j)) n (p / 3 % 40) with _ | to
      · show G sc mX10_makePiece 77 [some (aR 389), some (aI (nI t)), some (aI (nI p)), some (aI (nI f)), some (aI (-4)), none] [] (mk S) Q
        refine G_iload_n (pc := 77) dX10_makePiece_77 rfl rfl ?_
        refine N_if_lt (pc := 78) (tgt := 87) dX10_makePiece_78 (by decide) (by omega) ?_
        refine G_iload (pc := 81) dX10_makePiece_81 rfl ?_
        refine G_iload_n (pc := 83) dX10_makePiece_83 rfl rfl ?_
        refine T_icmp_gt (pc := 84) (tgt := 89) dX10_makePiece_84 (by decide) (fun c84 => absurd c84 (by rw [nIt (by omega)]; show ¬ (_ < (-4 : Int)); omega)) (fun c84 => ?_)
        refine G_iconst (pc := 87) (v := nI 0) dX10_makePiece_87 (by decide) ?_
        refine S_zret (pc := 88) dX10_makePiece_88 rfl rfl ?_
        exact h0 (pcL_n2 hp3 hf hto)
      · have ht2 := pl_le hto
        show G sc mX10_makePiece 77 [some (aR 389), some (aI (nI t)), some (aI (nI p)), some (aI (nI f)), some (aI (nI to)), none] [] (mk S) Q
        refine G_iload_n (pc := 77) dX10_makePiece_77 rfl rfl ?_
        refine N_if_lt (pc := 78) (tgt := 87) dX10_makePiece_78 (by decide) (by omega) ?_
        refine G_iload (pc := 81) dX10_makePiece_81 rfl ?_
        refine G_iload_n (pc := 83) dX10_makePiece_83 rfl rfl ?_
        refine N_icmp_gt (pc := 84) (tgt := 89) dX10_makePiece_84 (by decide) (by omega) (fun c84 => ?_) (fun c84 => ?_)
        · skip
          refine G_iload_n (pc := 89) dX10_makePiece_89 rfl rfl ?_
          refine G_istore (pc := 90) dX10_makePiece_90 (by decide) rfl ?_
          refine makePiece_cut ht hp3 ht2 hn (to - f) f S l (by omega) hl (by omega) (fun S' g1 g2 => h1 S' _ (by rw [pcL_cut hp3 hf hto, if_pos (by omega)]) g1 g2)
        · skip
          refine G_iconst (pc := 87) (v := nI 0) dX10_makePiece_87 (by decide) ?_
          refine S_zret (pc := 88) dX10_makePiece_88 rfl rfl ?_
          exact h0 (by rw [pcL_cut hp3 hf hto, if_neg (by omega)])
  · skip
    refine G_iload_n (pc := 6) dX10_makePiece_6 rfl rfl ?_
    refine G_ldc (pc := 7) dX10_makePiece_7 kX10_149 ?_
    rw [hk]
    refine N_idiv (pc := 9) dX10_makePiece_9 (by omega) ?_
    refine G_iconst (pc := 10) (v := nI 1) dX10_makePiece_10 (by decide) ?_
    refine G_isub (pc := 11) dX10_makePiece_11 ?_
    refine G_istore_n (pc := 12) dX10_makePiece_12 rfl (by decide) rfl ?_
    have hp3 : 16777216 ≤ p := by omega
    refine makePiece_typ hp2 (p / 16777216) S l (by omega) hl (by omega) (fun S' g1 g2 => h1 S' _ (pcL_typ hp3) g1 g2)
/-- byte i of a list, its length for -1 -/
def told (l : List Int32) (i : Int32) : Int32 := if i.toInt < 0 then nI l.length else if i.toInt < l.length then l.getD i.toInt.toNat 0 else -1
theorem clampN {x : Int32} (h : 0 ≤ x.toInt) : x = nI x.toInt.toNat := nI_ofT (by omega)
set_option maxRecDepth 100000 in
set_option maxHeartbeats 4000000 in
theorem sX10_byteOf {l : List Int32} {i : Int32} (hl : OutIs S l) (hlen : l.length ≤ 36) (h : Q (some (aI (told l i))) (mk S)) : CT sc mX10_byteOf [aR 389, aI i] (mk S) Q := by
  refine S_of (by decide) rfl ?_
  show G sc mX10_byteOf 0 [some (aR 389), some (aI i)] [] (mk S) Q
  refine G_iload_n (pc := 0) dX10_byteOf_0 rfl rfl ?_
  refine T_if_ge (pc := 1) (tgt := 11) dX10_byteOf_1 (by decide) (fun c1 => ?_) (fun c1 => ?_)
  · skip
    refine G_iload_n (pc := 11) dX10_byteOf_11 rfl rfl ?_
    refine G_aload_n (pc := 12) dX10_byteOf_12 rfl rfl ?_
    refine S_getI (pc := 13) dX10_byteOf_13 fX10_150 rfl (by first | rfl | assumption) rfl ?_
    rw [hl.1]
    refine T_icmp_ge (pc := 16) (tgt := 28) dX10_byteOf_16 (by decide) (fun c16 => ?_) (fun c16 => ?_)
    · skip
      rw [nIt (by omega)] at c16
      refine G_iconst (pc := 28) (v := (-1)) dX10_byteOf_28 (by decide) ?_
      refine S_iret (pc := 29) dX10_byteOf_29 rfl ?_
      exact q_i h (by unfold told; first | rw [if_pos (by omega)] | rw [if_neg (by omega), if_pos (by omega)] | rw [if_neg (by omega), if_neg (by omega)])
    · skip
      rw [nIt (by omega)] at c16
      refine G_aload_n (pc := 19) dX10_byteOf_19 rfl rfl ?_
      refine S_getR (pc := 20) (b := 397) dX10_byteOf_20 fX10_31 rfl rfl (by first | rfl | assumption) rfl rfl ?_
      refine G_iload_n (pc := 23) dX10_byteOf_23 rfl rfl ?_
      refine S_iald (pc := 24) dX10_byteOf_24 (by first | rfl | assumption) (in_T (by omega) (by omega)) ?_
      rw [nI_clampT (n := i.toInt.toNat) (by omega), hl.2 _ (by omega)]
      refine G_goto (pc := 25) (tgt := 29) dX10_byteOf_25 (by decide) ?_
      refine S_iret (pc := 29) dX10_byteOf_29 rfl ?_
      exact q_i h (by unfold told; first | rw [if_pos (by omega)] | rw [if_neg (by omega), if_pos (by omega)] | rw [if_neg (by omega), if_neg (by omega)])
  · skip
    refine G_aload_n (pc := 4) dX10_byteOf_4 rfl rfl ?_
    refine S_getI (pc := 5) dX10_byteOf_5 fX10_150 rfl (by first | rfl | assumption) rfl ?_
    rw [hl.1]
    refine G_goto (pc := 8) (tgt := 29) dX10_byteOf_8 (by decide) ?_
    refine S_iret (pc := 29) dX10_byteOf_29 rfl ?_
    exact q_i h (by unfold told; first | rw [if_pos (by omega)] | rw [if_neg (by omega), if_pos (by omega)] | rw [if_neg (by omega), if_neg (by omega)])
end M5
