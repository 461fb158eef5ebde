/-! the model: standsAt, isAll, leftOf -/
/-- the list o stands in e, of the length m, at the place p -/
def stG (e : Nat → Int32) (o : List Int32) (p : Nat) : Nat → Nat → Bool
  | 0, _ => true
  | d + 1, i => decide ((o.getD i 0).toInt = (e (p + i)).toInt) && stG e o p d (i + 1)
def stB (e : Nat → Int32) (m : Nat) (o : List Int32) (p : Int) : Bool := decide (0 ≤ p ∧ p + o.length ≤ m) && stG e o p.toNat o.length 0
abbrev enB (S : ST) (t : Nat) : Nat → Int32 := fun j => S.2.1 393 (36 * t + j)
section M17
variable {sc : SC} {S : ST} {Q : Option AV → HM → Prop}
set_option maxRecDepth 100000 in
set_option maxHeartbeats 4000000 in
theorem standsAt_no {t i : Nat} {p : Int32} {l : List Int32} (hl : OutIs S l) (hlen : l.length ≤ 36) (hi : i ≤ l.length) (h : Q (some (aI (bI false))) (mk S)) : G sc mX10_standsAt 28 [some (aR 389), some (aI (nI t)), some (aI p), some (aI (bI false)), some (aI (nI i))] [] (mk S) Q := by
  refine G_iload (pc := 28) dX10_standsAt_28 rfl ?_
  refine G_aload_n (pc := 30) dX10_standsAt_30 rfl rfl ?_
  refine S_getI (pc := 31) dX10_standsAt_31 fX10_150 rfl (by first | rfl | assumption) rfl ?_
  rw [hl.1]
  refine N_icmp_ge (pc := 34) (tgt := 77) dX10_standsAt_34 (by decide) (by omega) (fun c34 => ?_) (fun c34 => ?_)
  · skip
    refine G_iload_n (pc := 77) dX10_standsAt_77 rfl rfl ?_
    refine S_zret (pc := 78) dX10_standsAt_78 rfl (bI_nar _) ?_
    exact h
  · skip
    refine G_iload_n (pc := 37) dX10_standsAt_37 rfl rfl ?_
    refine B_if_eq (pc := 38) (tgt := 77) dX10_standsAt_38 (by decide) (fun c38 => ?_) (fun c38 => absurd c38 (by decide))
    refine G_iload_n (pc := 77) dX10_standsAt_77 rfl rfl ?_
    refine S_zret (pc := 78) dX10_standsAt_78 rfl (bI_nar _) ?_
    exact h
set_option maxRecDepth 100000 in
set_option maxHeartbeats 4000000 in
theorem standsAt_lp {t p : Nat} {l : List Int32} (ht : t < 12) (hl : OutIs S l) (hp : p + l.length ≤ 36) :
    ∀ (d i : Nat), i + d = l.length → Q (some (aI (bI (stG (enB S t) l p d i)))) (mk S) → G sc mX10_standsAt 28 [some (aR 389), some (aI (nI t)), some (aI (nI p)), some (aI (bI true)), some (aI (nI i))] [] (mk S) Q := by
  intro d
  induction d with
  | zero =>
    intro i hi h
    refine G_iload (pc := 28) dX10_standsAt_28 rfl ?_
    refine G_aload_n (pc := 30) dX10_standsAt_30 rfl rfl ?_
    refine S_getI (pc := 31) dX10_standsAt_31 fX10_150 rfl (by first | rfl | assumption) rfl ?_
    rw [hl.1]
    refine N_icmp_ge (pc := 34) (tgt := 77) dX10_standsAt_34 (by decide) (by omega) (fun c34 => ?_) (fun c34 => absurd c34 (by omega))
    refine G_iload_n (pc := 77) dX10_standsAt_77 rfl rfl ?_
    refine S_zret (pc := 78) dX10_standsAt_78 rfl (bI_nar _) ?_
    exact h
  | succ d ih =>
    intro i hi h
    have hb := hl.2 i (by omega)
    have e0 : stG (enB S t) l p (d + 1) i = (decide ((l.getD i 0).toInt = (enB S t (p + i)).toInt) && stG (enB S t) l p d (i + 1)) := rfl
    refine G_iload (pc := 28) dX10_standsAt_28 rfl ?_
    refine G_aload_n (pc := 30) dX10_standsAt_30 rfl rfl ?_
    refine S_getI (pc := 31) dX10_standsAt_31 fX10_150 rfl (by first | rfl | assumption) rfl ?_
    rw [hl.1]
    refine N_icmp_ge (pc := 34) (tgt := 77) dX10_standsAt_34 (by decide) (by omega) (fun c34 => absurd c34 (by omega)) (fun c34 => ?_)
    refine G_iload_n (pc := 37) dX10_standsAt_37 rfl rfl ?_
    refine B_if_eq (pc := 38) (tgt := 77) dX10_standsAt_38 (by decide) (fun c38 => absurd c38 (by decide)) (fun c38 => ?_)
    refine G_aload_n (pc := 41) dX10_standsAt_41 rfl rfl ?_
    refine S_getR (pc := 42) (b := 397) dX10_standsAt_42 fX10_31 rfl rfl (by first | rfl | assumption) rfl rfl ?_
    refine G_iload (pc := 45) dX10_standsAt_45 rfl ?_
    refine N_iald (pc := 47) dX10_standsAt_47 (by first | rfl | assumption) (by first | rfl | assumption) (by omega) ?_
    rw [hb]
    refine G_aload_n (pc := 48) dX10_standsAt_48 rfl rfl ?_
    refine S_getR (pc := 49) (b := 393) dX10_standsAt_49 fX10_19 rfl rfl (by first | rfl | assumption) rfl rfl ?_
    refine G_bipush (pc := 52) (v := nI 36) dX10_standsAt_52 (by decide) ?_
    refine G_iload_n (pc := 54) dX10_standsAt_54 rfl rfl ?_
    refine N_imul (pc := 55) dX10_standsAt_55 ?_
    refine G_iload_n (pc := 56) dX10_standsAt_56 rfl rfl ?_
    refine N_iadd (pc := 57) dX10_standsAt_57 ?_
    refine G_iload (pc := 58) dX10_standsAt_58 rfl ?_
    refine N_iadd (pc := 60) dX10_standsAt_60 ?_
    refine N_iald (pc := 61) dX10_standsAt_61 (by first | rfl | assumption) (by first | rfl | assumption) (by omega) ?_
    rw [show 36 * t + p + i = 36 * t + (p + i) by omega]
    refine T_icmp_ne (pc := 62) (tgt := 69) dX10_standsAt_62 (by decide) (fun c62 => ?_) (fun c62 => ?_)
    · skip
      rw [e0, decide_eq_false c62] at h
      refine G_iconst (pc := 69) (v := nI 0) dX10_standsAt_69 (by decide) ?_
      refine G_istore_n (pc := 70) dX10_standsAt_70 rfl (by decide) rfl ?_
      refine N_iinc (pc := 71) dX10_standsAt_71 rfl (by decide) rfl ?_
      refine G_goto (pc := 74) (tgt := 28) dX10_standsAt_74 (by decide) ?_
      first | exact standsAt_no hl (by omega) (by omega) h | exact ih (i + 1) (by omega) h
    · skip
      rw [e0, decide_eq_true c62] at h
      refine G_iconst (pc := 65) (v := nI 1) dX10_standsAt_65 (by decide) ?_
      refine G_goto (pc := 66) (tgt := 70) dX10_standsAt_66 (by decide) ?_
      refine G_istore_n (pc := 70) dX10_standsAt_70 rfl (by decide) rfl ?_
      refine N_iinc (pc := 71) dX10_standsAt_71 rfl (by decide) rfl ?_
      refine G_goto (pc := 74) (tgt := 28) dX10_standsAt_74 (by decide) ?_
      first | exact standsAt_no hl (by omega) (by omega) h | exact ih (i + 1) (by omega) h
set_option maxRecDepth 100000 in
set_option maxHeartbeats 4000000 in
theorem sX10_standsAt {t : Nat} {p : Int32} {l : List Int32} (ht : t < 12) (hes : S.2.1 394 t = nI (esN S t)) (he : esN S t ≤ 35) (hl : OutIs S l) (hlen : l.length ≤ 36) (hp : -100 ≤ p.toInt ∧ p.toInt ≤ 100) (h : Q (some (aI (bI (stB (enB S t) (esN S t) l p.toInt)))) (mk S)) : CT sc mX10_standsAt [aR 389, aI (nI t), aI p] (mk S) Q := by
  refine S_of (by decide) rfl ?_
  show G sc mX10_standsAt 0 [some (aR 389), some (aI (nI t)), some (aI p), none, none] [] (mk S) Q
  by_cases hp0 : 0 ≤ p.toInt
  · obtain ⟨k, hk, rfl⟩ := nI_ex (x := p) (n := 101) hp0 (by omega)
    rw [nIt (by omega)] at h
    refine G_iload_n (pc := 0) dX10_standsAt_0 rfl rfl ?_
    refine N_if_lt (pc := 1) (tgt := 23) dX10_standsAt_1 (by decide) (by omega) ?_
    refine G_iload_n (pc := 4) dX10_standsAt_4 rfl rfl ?_
    refine G_aload_n (pc := 5) dX10_standsAt_5 rfl rfl ?_
    refine S_getI (pc := 6) dX10_standsAt_6 fX10_150 rfl (by first | rfl | assumption) rfl ?_
    rw [hl.1]
    refine N_iadd (pc := 9) dX10_standsAt_9 ?_
    refine G_aload_n (pc := 10) dX10_standsAt_10 rfl rfl ?_
    refine S_getR (pc := 11) (b := 394) dX10_standsAt_11 fX10_22 rfl rfl (by first | rfl | assumption) rfl rfl ?_
    refine G_iload_n (pc := 14) dX10_standsAt_14 rfl rfl ?_
    refine N_iald (pc := 15) dX10_standsAt_15 (by first | rfl | assumption) (by first | rfl | assumption) (by omega) ?_
    rw [hes]
    refine N_icmp_gt (pc := 16) (tgt := 23) dX10_standsAt_16 (by decide) (by omega) (fun c16 => ?_) (fun c16 => ?_)
    · skip
      refine G_iconst (pc := 23) (v := nI 0) dX10_standsAt_23 (by decide) ?_
      refine G_istore_n (pc := 24) dX10_standsAt_24 rfl (by decide) rfl ?_
      refine G_iconst (pc := 25) (v := nI 0) dX10_standsAt_25 (by decide) ?_
      refine G_istore (pc := 26) dX10_standsAt_26 (by decide) rfl ?_
      first
      | exact standsAt_no hl (by omega) (by omega) (by rw [show stB (enB S t) (esN S t) l k = false from by unfold stB; rw [decide_eq_false (by omega)]; rfl] at h; exact h)
      | exact standsAt_lp ht hl (by omega) l.length 0 (by omega) (by rw [show stB (enB S t) (esN S t) l k = stG (enB S t) l k l.length 0 from by unfold stB; rw [decide_eq_true (by omega)]; rfl] at h; exact h)
    · skip
      refine G_iconst (pc := 19) (v := nI 1) dX10_standsAt_19 (by decide) ?_
      refine G_goto (pc := 20) (tgt := 24) dX10_standsAt_20 (by decide) ?_
      refine G_istore_n (pc := 24) dX10_standsAt_24 rfl (by decide) rfl ?_
      refine G_iconst (pc := 25) (v := nI 0) dX10_standsAt_25 (by decide) ?_
      refine G_istore (pc := 26) dX10_standsAt_26 (by decide) rfl ?_
      first
      | exact standsAt_no hl (by omega) (by omega) (by rw [show stB (enB S t) (esN S t) l k = false from by unfold stB; rw [decide_eq_false (by omega)]; rfl] at h; exact h)
      | exact standsAt_lp ht hl (by omega) l.length 0 (by omega) (by rw [show stB (enB S t) (esN S t) l k = stG (enB S t) l k l.length 0 from by unfold stB; rw [decide_eq_true (by omega)]; rfl] at h; exact h)
  · rw [show stB (enB S t) (esN S t) l p.toInt = false from by unfold stB; rw [decide_eq_false (by omega)]; rfl] at h
    refine G_iload_n (pc := 0) dX10_standsAt_0 rfl rfl ?_
    refine T_if_lt (pc := 1) (tgt := 23) dX10_standsAt_1 (by decide) (fun c1 => ?_) (fun c1 => absurd c1 (by omega))
    refine G_iconst (pc := 23) (v := nI 0) dX10_standsAt_23 (by decide) ?_
    refine G_istore_n (pc := 24) dX10_standsAt_24 rfl (by decide) rfl ?_
    refine G_iconst (pc := 25) (v := nI 0) dX10_standsAt_25 (by decide) ?_
    refine G_istore (pc := 26) dX10_standsAt_26 (by decide) rfl ?_
    exact standsAt_no hl (by omega) (by omega) h
end M17
