/-! the model's state as numbers; byteAt, place, made, state, end -/
def thN (S : ST) : Nat := (S.1 389 0).toNatClampNeg
def szN (S : ST) (t : Nat) : Nat := (S.2.1 391 t).toNatClampNeg
def stN (S : ST) (t : Nat) : Nat := (S.2.1 392 t).toNatClampNeg
def esN (S : ST) (t : Nat) : Nat := (S.2.1 394 t).toNatClampNeg
def dbN (S : ST) (t : Nat) : Nat := (S.2.1 395 t).toNatClampNeg
def dgN (S : ST) : Nat := (S.1 389 7).toNatClampNeg
def tpN (S : ST) : Nat := (S.1 389 9).toNatClampNeg
def kpN (S : ST) : Nat := (S.1 389 28).toNatClampNeg
abbrev lnB (S : ST) (t : Nat) : Nat → Int32 := fun j => S.2.1 390 (16 * t + j)
def isBy (x : Int32) : Prop := 32 ≤ x.toInt ∧ x.toInt ≤ 126
/-- how many things; their lines -/
def MIa (S : ST) : Prop := (S.1 389 0 = nI (thN S) ∧ thN S ≤ 12) ∧ ∀ t, t < thN S → S.2.1 391 t = nI (szN S t) ∧ 1 ≤ szN S t ∧ szN S t ≤ 16 ∧ ∀ j, j < szN S t → isBy (lnB S t j)
/-- their states and ends -/
def MIb (S : ST) : Prop := ∀ t, t < thN S → (S.2.1 392 t = nI (stN S t) ∧ stN S t ≤ 3) ∧ (S.2.1 394 t = nI (esN S t) ∧ esN S t ≤ 35) ∧ (stN S t = 1 → 1 ≤ esN S t ∧ esN S t ≤ 12) ∧ (stN S t = 1 ∨ stN S t = 2 → ∀ j, j < esN S t → isBy (S.2.1 393 (36 * t + j)))
theorem isTh_of {n : Nat} {t : Int32} (h : isTh n t = true) : ∃ k, k < n ∧ t = nI k := by
  have h1 := of_decide_eq_true h
  exact ⟨t.toInt.toNat, by omega, nI_ofT (by omega)⟩
theorem nI_ex {x : Int32} {n : Nat} (h1 : 0 ≤ x.toInt) (h2 : x.toInt < n) : ∃ q, q < n ∧ x = nI q := ⟨x.toInt.toNat, by omega, nI_ofT (by omega)⟩
def sp_byteAt (S : ST) (t i : Int32) : Int32 := if isTh (thN S) t = true ∧ -1 ≤ i.toInt ∧ i.toInt < szN S t.toNatClampNeg then (if i.toInt < 0 then nI (szN S t.toNatClampNeg) else lnB S t.toNatClampNeg i.toNatClampNeg) else -1
def sp_place (S : ST) (t p : Int32) : Int32 := if isTh (thN S) t = true ∧ 0 ≤ p.toInt ∧ p.toInt < 40 then oI (pl (lnB S t.toNatClampNeg) (szN S t.toNatClampNeg) p.toNatClampNeg) else -1
def sp_state (S : ST) (t : Int32) : Int32 := if isTh (thN S) t = true then nI (stN S t.toNatClampNeg) else -1
section M6
variable {sc : SC} {S : ST} {Q : Option AV → HM → Prop}
set_option maxRecDepth 100000 in
set_option maxHeartbeats 4000000 in
theorem sX10_state {t : Int32} (ha : MIa S) (hb : MIb S) (h : Q (some (aI (sp_state S t))) (mk S)) : CT sc mX10_state [aR 389, aI t] (mk S) Q := by
  refine S_of (by decide) rfl ?_
  show G sc mX10_state 0 [some (aR 389), some (aI t)] [] (mk S) Q
  have hn := ha.1
  refine G_aload_n (pc := 0) dX10_state_0 rfl rfl ?_
  refine G_iload_n (pc := 1) dX10_state_1 rfl rfl ?_
  refine S_callV (av := [_]) (pc := 2) (z := mX10_isThing) (ci := 9) dX10_state_2 zX10_isThing lX10_state_105 rfl (by first | rfl | assumption) rfl rfl (sX10_isThing hn.1 (by omega) ⟨_, rfl, ?_⟩)
  refine B_if_eq (pc := 5) (tgt := 17) dX10_state_5 (by decide) (fun c5 => ?_) (fun c5 => ?_)
  · skip
    unfold sp_state at h
    rw [if_neg (by simp [c5])] at h
    refine G_iconst (pc := 17) (v := (-1)) dX10_state_17 (by decide) ?_
    refine S_iret (pc := 18) dX10_state_18 rfl ?_
    exact h
  · skip
    unfold sp_state at h
    rw [if_pos c5] at h
    obtain ⟨k, hk, rfl⟩ := isTh_of c5
    rw [nI_clamp (by omega)] at h
    refine G_aload_n (pc := 8) dX10_state_8 rfl rfl ?_
    refine S_getR (pc := 9) (b := 392) dX10_state_9 fX10_16 rfl rfl (by first | rfl | assumption) rfl rfl ?_
    refine G_iload_n (pc := 12) dX10_state_12 rfl rfl ?_
    refine N_iald (pc := 13) dX10_state_13 (by first | rfl | assumption) rfl (by omega) ?_
    rw [(hb k hk).1.1]
    refine G_goto (pc := 14) (tgt := 18) dX10_state_14 (by decide) ?_
    refine S_iret (pc := 18) dX10_state_18 rfl ?_
    exact h
set_option maxRecDepth 100000 in
set_option maxHeartbeats 4000000 in
theorem sX10_place {t p : Int32} (ha : MIa S) (h : Q (some (aI (sp_place S t p))) (mk S)) : CT sc mX10_place [aR 389, aI t, aI p] (mk S) Q := by
  refine S_of (by decide) rfl ?_
  show G sc mX10_place 0 [some (aR 389), some (aI t), some (aI p)] [] (mk S) Q
  have hn := ha.1
  have z0 : (0 : Int64).toInt = 0 := rfl
  have z39 : (39 : Int64).toInt = 39 := rfl
  refine G_aload_n (pc := 0) dX10_place_0 rfl rfl ?_
  refine G_iload_n (pc := 1) dX10_place_1 rfl rfl ?_
  refine S_callV (av := [_]) (pc := 2) (z := mX10_isThing) (ci := 9) dX10_place_2 zX10_isThing lX10_place_105 rfl (by first | rfl | assumption) rfl rfl (sX10_isThing hn.1 (by omega) ⟨_, rfl, ?_⟩)
  refine B_if_eq (pc := 5) (tgt := 29) dX10_place_5 (by decide) (fun c5 => ?_) (fun c5 => ?_)
  · skip
    unfold sp_place at h
    rw [if_neg (by simp [c5])] at h
    refine G_iconst (pc := 29) (v := (-1)) dX10_place_29 (by decide) ?_
    refine S_iret (pc := 30) dX10_place_30 rfl ?_
    exact h
  · skip
    refine G_iload_n (pc := 8) dX10_place_8 rfl rfl ?_
    refine G_i2l (pc := 9) dX10_place_9 ?_
    refine G_lconst (pc := 10) (v := 0) dX10_place_10 (by decide) ?_
    refine G_ldc2 (pc := 11) dX10_place_11 kX10_143 ?_
    refine S_callS (av := [_, _, _]) (pc := 14) (z := mX10_in) dX10_place_14 zX10_in lX10_place_84 rfl (sX10_in ⟨_, rfl, ?_⟩)
    refine B_if_eq (pc := 17) (tgt := 29) dX10_place_17 (by decide) (fun c17 => ?_) (fun c17 => ?_)
    · skip
      rw [decide_eq_false_iff_not, Int32.toInt_toInt64, z0, z39] at c17
      unfold sp_place at h
      rw [if_neg (by omega)] at h
      refine G_iconst (pc := 29) (v := (-1)) dX10_place_29 (by decide) ?_
      refine S_iret (pc := 30) dX10_place_30 rfl ?_
      exact h
    · skip
      rw [decide_eq_true_iff, Int32.toInt_toInt64, z0, z39] at c17
      unfold sp_place at h
      rw [if_pos ⟨c5, by omega⟩] at h
      obtain ⟨k, hk, rfl⟩ := isTh_of c5
      obtain ⟨q, hq, rfl⟩ := nI_ex (x := p) (n := 40) (by omega) (by omega)
      rw [nI_clamp (by omega), nI_clamp (by omega)] at h
      refine G_aload_n (pc := 20) dX10_place_20 rfl rfl ?_
      refine G_iload_n (pc := 21) dX10_place_21 rfl rfl ?_
      refine G_iload_n (pc := 22) dX10_place_22 rfl rfl ?_
      refine S_callV (av := [_, _]) (pc := 23) (z := mX10_placeOf) (ci := 9) dX10_place_23 zX10_placeOf lX10_place_145 rfl (by first | rfl | assumption) rfl rfl (sX10_placeOf (by omega) (ha.2 k hk).1 (ha.2 k hk).2.2.1 hq ⟨_, rfl, ?_⟩)
      refine G_goto (pc := 26) (tgt := 30) dX10_place_26 (by decide) ?_
      refine S_iret (pc := 30) dX10_place_30 rfl ?_
      exact h
end M6
