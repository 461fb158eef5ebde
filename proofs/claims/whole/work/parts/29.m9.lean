/-! the model: addThing, thing, show, forget -/
/-- n places of the row a, from b on, hold f -/
def upR (S : ST) (a b n : Nat) (f : Nat → Int32) : ST := (S.1, fun c i => if c = a ∧ b ≤ i ∧ i < b + n then f (i - b) else S.2.1 c i, S.2.2)
theorem upR_0 {S : ST} {a b : Nat} {f : Nat → Int32} : upR S a b 0 f = S := by
  unfold upR
  refine Prod.ext rfl (Prod.ext ?_ rfl)
  funext c i
  dsimp only
  rw [if_neg (by omega)]
theorem upR_s {S : ST} {a b j : Nat} {f : Nat → Int32} : upI (upR S a b j f) a (b + j) (f j) = upR S a b (j + 1) f := by
  unfold upI upR
  refine Prod.ext rfl (Prod.ext ?_ rfl)
  funext c i
  dsimp only
  by_cases h : c = a ∧ i = b + j
  · rw [if_pos h, if_pos (by omega), h.2, show b + j - b = j by omega]
  · rw [if_neg h]
    by_cases h2 : c = a ∧ b ≤ i ∧ i < b + j
    · rw [if_pos h2, if_pos (by omega)]
    · rw [if_neg h2, if_neg (by omega)]
theorem upR_in {S : ST} {a b n i : Nat} {f : Nat → Int32} (h : b ≤ i ∧ i < b + n) : (upR S a b n f).2.1 a i = f (i - b) := by
  show (if a = a ∧ b ≤ i ∧ i < b + n then f (i - b) else S.2.1 a i) = _
  rw [if_pos ⟨rfl, h⟩]
theorem upR_n {S : ST} {a b n c i : Nat} {f : Nat → Int32} (h : ¬ (c = a ∧ b ≤ i ∧ i < b + n)) : (upR S a b n f).2.1 c i = S.2.1 c i := by
  show (if c = a ∧ b ≤ i ∧ i < b + n then f (i - b) else S.2.1 c i) = _
  rw [if_neg h]
def addT (S : ST) (k : Nat) (v : Int32) : ST := upX (upI (upI (upI S 391 k v) 392 k (nI 0)) 395 k (nI 0)) 389 0 (nI (k + 1))
section M9
variable {sc : SC} {S : ST} {Q : Option AV → HM → Prop}
set_option maxRecDepth 100000 in
set_option maxHeartbeats 4000000 in
theorem sX10_addThing {k : Nat} {v : Int32} (hk : k < 12) (hn : S.1 389 0 = nI k) (h : Q (some (aI (nI k))) (mk (addT S k v))) : CT sc mX10_addThing [aR 389, aI v] (mk S) Q := by
  refine S_of (by decide) rfl ?_
  show G sc mX10_addThing 0 [some (aR 389), some (aI v)] [] (mk S) Q
  refine G_aload_n (pc := 0) dX10_addThing_0 rfl rfl ?_
  refine S_getR (pc := 1) (b := 391) dX10_addThing_1 fX10_13 rfl rfl (by first | rfl | assumption) rfl rfl ?_
  refine G_aload_n (pc := 4) dX10_addThing_4 rfl rfl ?_
  refine S_getI (pc := 5) dX10_addThing_5 fX10_80 rfl (by first | rfl | assumption) rfl ?_
  rw [hn]
  refine G_iload_n (pc := 8) dX10_addThing_8 rfl rfl ?_
  refine N_iast (pc := 9) dX10_addThing_9 (by first | rfl | assumption) rfl (by omega) ?_
  refine G_aload_n (pc := 10) dX10_addThing_10 rfl rfl ?_
  refine S_getR (pc := 11) (b := 392) dX10_addThing_11 fX10_16 rfl rfl (by first | rfl | assumption) rfl rfl ?_
  refine G_aload_n (pc := 14) dX10_addThing_14 rfl rfl ?_
  refine S_getI (pc := 15) dX10_addThing_15 fX10_80 rfl (by first | rfl | assumption) rfl ?_
  rw [show (upI S 391 k v).1 389 0 = nI k from hn]
  refine G_iconst (pc := 18) (v := nI 0) dX10_addThing_18 (by decide) ?_
  refine N_iast (pc := 19) dX10_addThing_19 (by first | rfl | assumption) rfl (by omega) ?_
  refine G_aload_n (pc := 20) dX10_addThing_20 rfl rfl ?_
  refine S_getR (pc := 21) (b := 395) dX10_addThing_21 fX10_25 rfl rfl (by first | rfl | assumption) rfl rfl ?_
  refine G_aload_n (pc := 24) dX10_addThing_24 rfl rfl ?_
  refine S_getI (pc := 25) dX10_addThing_25 fX10_80 rfl (by first | rfl | assumption) rfl ?_
  rw [show (upI (upI S 391 k v) 392 k (nI 0)).1 389 0 = nI k from hn]
  refine G_iconst (pc := 28) (v := nI 0) dX10_addThing_28 (by decide) ?_
  refine N_iast (pc := 29) dX10_addThing_29 (by first | rfl | assumption) rfl (by omega) ?_
  refine G_aload_n (pc := 30) dX10_addThing_30 rfl rfl ?_
  refine G_dup (pc := 31) dX10_addThing_31 rfl ?_
  refine S_getI (pc := 32) dX10_addThing_32 fX10_80 rfl (by first | rfl | assumption) rfl ?_
  rw [show (upI (upI (upI S 391 k v) 392 k (nI 0)) 395 k (nI 0)).1 389 0 = nI k from hn]
  refine G_iconst (pc := 35) (v := nI 1) dX10_addThing_35 (by decide) ?_
  refine N_iadd (pc := 36) dX10_addThing_36 ?_
  refine S_putI (pc := 37) dX10_addThing_37 fX10_80 (by decide) rfl (by first | rfl | assumption) rfl ?_
  refine G_aload_n (pc := 40) dX10_addThing_40 rfl rfl ?_
  refine S_getI (pc := 41) dX10_addThing_41 fX10_80 rfl (by first | rfl | assumption) rfl ?_
  rw [show (upX (upI (upI (upI S 391 k v) 392 k (nI 0)) 395 k (nI 0)) 389 0 (nI (k + 1))).1 389 0 = nI (k + 1) from upX_s]
  refine G_iconst (pc := 44) (v := nI 1) dX10_addThing_44 (by decide) ?_
  refine N_isub (pc := 45) dX10_addThing_45 (by omega) ?_
  refine S_iret (pc := 46) dX10_addThing_46 rfl ?_
  exact q_i h (by rw [Nat.add_sub_cancel])
set_option maxRecDepth 100000 in
set_option maxHeartbeats 4000000 in
theorem thing_lp {k n : Nat} (hk : k < 12) (hn : n ≤ 16) (hth : S.1 389 0 = nI k) :
    ∀ (d j : Nat), j + d = n → G sc mX10_thing 70 [some (aR 389), some (aI (nI n)), some (aI (nI n))] [] (mk (upR S 390 (16 * k) n (S.2.1 396))) Q →
      G sc mX10_thing 39 [some (aR 389), some (aI (nI n)), some (aI (nI j))] [] (mk (upR S 390 (16 * k) j (S.2.1 396))) Q := by
  intro d
  induction d with
  | zero =>
    intro j hj h
    have e : j = n := by omega
    subst e
    refine G_iload_n (pc := 39) dX10_thing_39 rfl rfl ?_
    refine G_iload_n (pc := 40) dX10_thing_40 rfl rfl ?_
    refine N_icmp_ge (pc := 41) (tgt := 70) dX10_thing_41 (by decide) (by omega) (fun c41 => ?_) (fun c41 => absurd c41 (by omega))
    exact h
  | succ d ih =>
    intro j hj h
    refine G_iload_n (pc := 39) dX10_thing_39 rfl rfl ?_
    refine G_iload_n (pc := 40) dX10_thing_40 rfl rfl ?_
    refine N_icmp_ge (pc := 41) (tgt := 70) dX10_thing_41 (by decide) (by omega) (fun c41 => absurd c41 (by omega)) (fun c41 => ?_)
    refine G_aload_n (pc := 44) dX10_thing_44 rfl rfl ?_
    refine S_getR (pc := 45) (b := 390) dX10_thing_45 fX10_7 rfl rfl (by first | rfl | assumption) rfl rfl ?_
    refine G_bipush (pc := 48) (v := nI 16) dX10_thing_48 (by decide) ?_
    refine G_aload_n (pc := 50) dX10_thing_50 rfl rfl ?_
    refine S_getI (pc := 51) dX10_thing_51 fX10_80 rfl (by first | rfl | assumption) rfl ?_
    rw [show (upR S 390 (16 * k) j (S.2.1 396)).1 389 0 = nI k from hth]
    refine N_imul (pc := 54) dX10_thing_54 ?_
    refine G_iload_n (pc := 55) dX10_thing_55 rfl rfl ?_
    refine N_iadd (pc := 56) dX10_thing_56 ?_
    refine G_aload_n (pc := 57) dX10_thing_57 rfl rfl ?_
    refine S_getR (pc := 58) (b := 396) dX10_thing_58 fX10_28 rfl rfl (by first | rfl | assumption) rfl rfl ?_
    refine G_iload_n (pc := 61) dX10_thing_61 rfl rfl ?_
    refine N_iald (pc := 62) dX10_thing_62 (by first | rfl | assumption) rfl (by omega) ?_
    rw [show (upR S 390 (16 * k) j (S.2.1 396)).2.1 396 j = S.2.1 396 j from upR_n (by omega)]
    refine N_iast (pc := 63) dX10_thing_63 (by first | rfl | assumption) rfl (by omega) ?_
    rw [upR_s]
    refine N_iinc (pc := 64) dX10_thing_64 rfl (by decide) rfl ?_
    refine G_goto (pc := 67) (tgt := 39) dX10_thing_67 (by decide) ?_
    exact ih (j + 1) (by omega) h
set_option maxRecDepth 100000 in
set_option maxHeartbeats 4000000 in
theorem sX10_thing {l : List Int32} {k : Nat} (hl : TapIs S l) (hlen : l.length ≤ 60) (hk : k ≤ 12) (hth : S.1 389 0 = nI k)
    (hnot : ¬ (1 ≤ l.length ∧ l.length ≤ 16) → Q (some (aI (-2))) (mk (upX S 389 9 (nI 0)))) (hfull : 1 ≤ l.length ∧ l.length ≤ 16 → k = 12 → Q (some (aI (-3))) (mk (upX S 389 9 (nI 0))))
    (hok : 1 ≤ l.length ∧ l.length ≤ 16 → k < 12 → Q (some (aI (nI k))) (mk (addT (upR (upX S 389 9 (nI 0)) 390 (16 * k) l.length (S.2.1 396)) k (nI l.length)))) : CT sc mX10_thing [aR 389] (mk S) Q := by
  refine S_of (by decide) rfl ?_
  show G sc mX10_thing 0 [some (aR 389), none, none] [] (mk S) Q
  have z1 : (1 : Int64).toInt = 1 := rfl
  have z16 : (16 : Int64).toInt = 16 := rfl
  have hth' : (upX S 389 9 (nI 0)).1 389 0 = nI k := by rw [upX_n (by omega)]; exact hth
  refine G_aload_n (pc := 0) dX10_thing_0 rfl rfl ?_
  refine S_getI (pc := 1) dX10_thing_1 fX10_96 rfl (by first | rfl | assumption) rfl ?_
  rw [hl.1]
  refine G_istore_n (pc := 4) dX10_thing_4 rfl (by decide) rfl ?_
  refine G_aload_n (pc := 5) dX10_thing_5 rfl rfl ?_
  refine G_iconst (pc := 6) (v := nI 0) dX10_thing_6 (by decide) ?_
  refine S_putI (pc := 7) dX10_thing_7 fX10_96 (by decide) rfl (by first | rfl | assumption) rfl ?_
  refine G_iload_n (pc := 10) dX10_thing_10 rfl rfl ?_
  refine G_i2l (pc := 11) dX10_thing_11 ?_
  refine G_lconst (pc := 12) (v := 1) dX10_thing_12 (by decide) ?_
  refine G_ldc2 (pc := 13) dX10_thing_13 kX10_99 ?_
  refine S_callS (av := [_, _, _]) (pc := 16) (z := mX10_in) dX10_thing_16 zX10_in lX10_thing_84 rfl (sX10_in ⟨_, rfl, ?_⟩)
  refine B_if_ne (pc := 19) (tgt := 25) dX10_thing_19 (by decide) (fun c19 => ?_) (fun c19 => ?_)
  · skip
    rw [decide_eq_true_iff, Int32.toInt_toInt64, z1, z16, nIt (by omega)] at c19
    refine G_aload_n (pc := 25) dX10_thing_25 rfl rfl ?_
    refine S_getI (pc := 26) dX10_thing_26 fX10_80 rfl (by first | rfl | assumption) rfl ?_
    rw [hth']
    refine G_bipush (pc := 29) (v := nI 12) dX10_thing_29 (by decide) ?_
    refine N_icmp_ne (pc := 31) (tgt := 37) dX10_thing_31 (by decide) (by omega) (fun c31 => ?_) (fun c31 => ?_)
    · skip
      refine G_iconst (pc := 37) (v := nI 0) dX10_thing_37 (by decide) ?_
      refine G_istore_n (pc := 38) dX10_thing_38 rfl (by decide) rfl ?_
      have e0 : mk (upX S 389 9 (nI 0)) = mk (upR (upX S 389 9 (nI 0)) 390 (16 * k) 0 ((upX S 389 9 (nI 0)).2.1 396)) := by rw [upR_0]
      rw [e0]
      refine thing_lp (by omega) (by omega) hth' l.length 0 (by omega) ?_
      refine G_aload_n (pc := 70) dX10_thing_70 rfl rfl ?_
      refine G_iload_n (pc := 71) dX10_thing_71 rfl rfl ?_
      refine S_callV (av := [_]) (pc := 72) (z := mX10_addThing) (ci := 9) dX10_thing_72 zX10_addThing lX10_thing_101 rfl (by first | rfl | assumption) rfl rfl (sX10_addThing (by omega) hth' ⟨_, rfl, ?_⟩)
      refine S_iret (pc := 75) dX10_thing_75 rfl ?_
      exact hok (by omega) (by omega)
    · skip
      refine G_bipush (pc := 34) (v := (-3)) dX10_thing_34 (by decide) ?_
      refine S_iret (pc := 36) dX10_thing_36 rfl ?_
      exact hfull (by omega) (by omega)
  · skip
    rw [decide_eq_false_iff_not, Int32.toInt_toInt64, z1, z16, nIt (by omega)] at c19
    refine G_bipush (pc := 22) (v := (-2)) dX10_thing_22 (by decide) ?_
    refine S_iret (pc := 24) dX10_thing_24 rfl ?_
    exact hnot (by omega)
set_option maxRecDepth 100000 in
set_option maxHeartbeats 4000000 in
theorem sX10_forget {t : Int32} (ha : MIa S) (hb : MIb S) (hbad : isTh (thN S) t = false → Q (some (aI (-1))) (mk S)) (hnot : isTh (thN S) t = true → ¬ stN S t.toNatClampNeg = 1 → Q (some (aI (-2))) (mk S))
    (hok : ∀ k, t = nI k → k < thN S → stN S k = 1 → Q (some (aI (nI (cntS (upI S 392 k (nI 0)) (nI 1) (thN S))))) (mk (upI S 392 k (nI 0)))) : CT sc mX10_forget [aR 389, aI t] (mk S) Q := by
  refine S_of (by decide) rfl ?_
  show G sc mX10_forget 0 [some (aR 389), some (aI t)] [] (mk S) Q
  have hn := ha.1
  refine G_aload_n (pc := 0) dX10_forget_0 rfl rfl ?_
  refine G_iload_n (pc := 1) dX10_forget_1 rfl rfl ?_
  refine S_callV (av := [_]) (pc := 2) (z := mX10_isThing) (ci := 9) dX10_forget_2 zX10_isThing lX10_forget_105 rfl (by first | rfl | assumption) rfl rfl (sX10_isThing hn.1 (by omega) ⟨_, rfl, ?_⟩)
  refine B_if_ne (pc := 5) (tgt := 10) dX10_forget_5 (by decide) (fun c5 => ?_) (fun c5 => ?_)
  · skip
    obtain ⟨k, hk, rfl⟩ := isTh_of c5
    rw [nI_clamp (by omega)] at hnot
    have hs := hb k hk
    have hok := hok k rfl hk
    refine G_aload_n (pc := 10) dX10_forget_10 rfl rfl ?_
    refine S_getR (pc := 11) (b := 392) dX10_forget_11 fX10_16 rfl rfl (by first | rfl | assumption) rfl rfl ?_
    refine G_iload_n (pc := 14) dX10_forget_14 rfl rfl ?_
    refine N_iald (pc := 15) dX10_forget_15 (by first | rfl | assumption) rfl (by omega) ?_
    rw [hs.1.1]
    refine G_iconst (pc := 16) (v := nI 1) dX10_forget_16 (by decide) ?_
    refine N_icmp_eq (pc := 17) (tgt := 23) dX10_forget_17 (by decide) (by omega) (fun c17 => ?_) (fun c17 => ?_)
    · skip
      refine G_aload_n (pc := 23) dX10_forget_23 rfl rfl ?_
      refine S_getR (pc := 24) (b := 392) dX10_forget_24 fX10_16 rfl rfl (by first | rfl | assumption) rfl rfl ?_
      refine G_iload_n (pc := 27) dX10_forget_27 rfl rfl ?_
      refine G_iconst (pc := 28) (v := nI 0) dX10_forget_28 (by decide) ?_
      refine N_iast (pc := 29) dX10_forget_29 (by first | rfl | assumption) rfl (by omega) ?_
      refine G_aload_n (pc := 30) dX10_forget_30 rfl rfl ?_
      refine G_iconst (pc := 31) (v := nI 1) dX10_forget_31 (by decide) ?_
      refine S_callV (av := [_]) (pc := 32) (z := mX10_countOf) (ci := 9) dX10_forget_32 zX10_countOf lX10_forget_169 rfl (by first | rfl | assumption) rfl rfl (sX10_countOf ?_ ⟨_, rfl, ?_⟩)
      · refine ⟨hn, fun u hu => ?_⟩
        have q := ha.2 u hu
        have e1 : ∀ j, (upI S 392 k (nI 0)).2.1 391 j = S.2.1 391 j := fun j => upI_n (by omega)
        have e2 : ∀ j, (upI S 392 k (nI 0)).2.1 390 j = S.2.1 390 j := fun j => upI_n (by omega)
        simp only [szN, lnB, e1, e2] at q ⊢
        exact q
      refine S_iret (pc := 35) dX10_forget_35 rfl ?_
      exact hok c17
    · skip
      refine G_bipush (pc := 20) (v := (-2)) dX10_forget_20 (by decide) ?_
      refine S_iret (pc := 22) dX10_forget_22 rfl ?_
      exact hnot c5 c17
  · skip
    refine G_iconst (pc := 8) (v := (-1)) dX10_forget_8 (by decide) ?_
    refine S_iret (pc := 9) dX10_forget_9 rfl ?_
    exact hbad c5
end M9
