/-! the model: back, otherwise, keep -/
/-- doings, and by which of them a thing was done -/
def MIg (S : ST) : Prop := (S.1 389 7 = nI (dgN S) ∧ dgN S ≤ 512) ∧ ∀ t, t < thN S → S.2.1 395 t = nI (dbN S t) ∧ dbN S t ≤ dgN S ∧ (0 < dbN S t ↔ stN S t = 2 ∨ stN S t = 3)
/-- of the first t things those of the doing dg are taken back -/
def BkIs (S S' : ST) (dg t : Nat) : Prop := ∀ u, u < 12 → (u < t → dbN S u = dg → S'.2.1 392 u = nI 0 ∧ S'.2.1 395 u = nI 0) ∧ (¬ (u < t ∧ dbN S u = dg) → S'.2.1 392 u = S.2.1 392 u ∧ S'.2.1 395 u = S.2.1 395 u)
def bkC (S : ST) (dg : Nat) : Nat → Nat
  | 0 => 0
  | t + 1 => bkC S dg t + (if dbN S t = dg then 1 else 0)
theorem bkC_le (S : ST) (dg : Nat) : ∀ t, bkC S dg t ≤ t
  | 0 => Nat.le_refl _
  | t + 1 => by
    have := bkC_le S dg t
    unfold bkC
    split <;> omega
abbrev kX (a j : Nat) : Prop := a = 389 ∧ j = 7
abbrev kA (a : Nat) : Prop := a = 392 ∨ a = 395
section M35
variable {sc : SC} {S : ST} {Q : Option AV → HM → Prop}
set_option maxRecDepth 100000 in
set_option maxHeartbeats 4000000 in
theorem back_lp {S0 : ST} {dg : Nat} (hth : S0.1 389 0 = nI (thN S0)) (h12 : thN S0 ≤ 12) (hdg : S0.1 389 7 = nI dg) (hd5 : 1 ≤ dg ∧ dg ≤ 512) (hdb : ∀ t, t < thN S0 → S0.2.1 395 t = nI (dbN S0 t) ∧ dbN S0 t ≤ 512) :
    ∀ (d t : Nat) (S : ST), t + d = thN S0 → Fr kX kA S0 S → S.1 389 7 = nI dg → BkIs S0 S dg t → (∀ S', Fr kX kA S0 S' → S'.1 389 7 = nI (dg - 1) → BkIs S0 S' dg (thN S0) → Q (some (aI (nI (bkC S0 dg (thN S0))))) (mk S')) →
      G sc mX10_back 14 [some (aR 389), some (aI (nI (bkC S0 dg t))), some (aI (nI t))] [] (mk S) Q := by
  intro d
  induction d with
  | zero =>
    intro t S ht hF hd hB h
    have e : t = thN S0 := by omega
    subst e
    refine G_iload_n (pc := 14) dX10_back_14 rfl rfl ?_
    refine G_aload_n (pc := 15) dX10_back_15 rfl rfl ?_
    refine S_getI (pc := 16) dX10_back_16 fX10_80 rfl (by first | rfl | assumption) rfl ?_
    rw [(hF.1 389 0 (by omega)).trans hth]
    refine N_icmp_ge (pc := 19) (tgt := 58) dX10_back_19 (by decide) (by omega) (fun c19 => ?_) (fun c19 => absurd c19 (by omega))
    refine G_aload_n (pc := 58) dX10_back_58 rfl rfl ?_
    refine G_dup (pc := 59) dX10_back_59 rfl ?_
    refine S_getI (pc := 60) dX10_back_60 fX10_278 rfl (by first | rfl | assumption) rfl ?_
    rw [hd]
    refine G_iconst (pc := 63) (v := nI 1) dX10_back_63 (by decide) ?_
    refine N_isub (pc := 64) dX10_back_64 (by omega) ?_
    refine S_putI (pc := 65) dX10_back_65 fX10_278 (by decide) rfl (by first | rfl | assumption) rfl ?_
    refine G_iload_n (pc := 68) dX10_back_68 rfl rfl ?_
    refine S_iret (pc := 69) dX10_back_69 rfl ?_
    refine h _ (hF.tr (Fr.upX ⟨rfl, rfl⟩)) upX_s hB
  | succ d ih =>
    intro t S ht hF hd hB h
    have hc := bkC_le S0 dg t
    have hb := hdb t (by omega)
    have e0 : bkC S0 dg (t + 1) = bkC S0 dg t + (if dbN S0 t = dg then 1 else 0) := rfl
    have h5 : S.2.1 395 t = nI (dbN S0 t) := ((hB t (by omega)).2 (by omega)).2.trans hb.1
    refine G_iload_n (pc := 14) dX10_back_14 rfl rfl ?_
    refine G_aload_n (pc := 15) dX10_back_15 rfl rfl ?_
    refine S_getI (pc := 16) dX10_back_16 fX10_80 rfl (by first | rfl | assumption) rfl ?_
    rw [(hF.1 389 0 (by omega)).trans hth]
    refine N_icmp_ge (pc := 19) (tgt := 58) dX10_back_19 (by decide) (by omega) (fun c19 => absurd c19 (by omega)) (fun c19 => ?_)
    refine G_aload_n (pc := 22) dX10_back_22 rfl rfl ?_
    refine S_getR (pc := 23) (b := 395) dX10_back_23 fX10_25 rfl rfl (by first | rfl | assumption) rfl rfl ?_
    refine G_iload_n (pc := 26) dX10_back_26 rfl rfl ?_
    refine N_iald (pc := 27) dX10_back_27 (by first | rfl | assumption) (by first | rfl | assumption) (by omega) ?_
    rw [h5]
    refine G_aload_n (pc := 28) dX10_back_28 rfl rfl ?_
    refine S_getI (pc := 29) dX10_back_29 fX10_278 rfl (by first | rfl | assumption) rfl ?_
    rw [hd]
    refine N_icmp_ne (pc := 32) (tgt := 52) dX10_back_32 (by decide) (by omega) (fun c32 => ?_) (fun c32 => ?_)
    · skip
      rw [if_neg c32] at e0
      refine N_iinc (pc := 52) dX10_back_52 rfl (by decide) rfl ?_
      refine G_goto (pc := 55) (tgt := 14) dX10_back_55 (by decide) ?_
      first
      | (rw [show bkC S0 dg t = bkC S0 dg (t + 1) from e0.symm]
         refine ih (t + 1) S (by omega) hF hd (fun u hu => ?_) h
         have q := hB u hu
         by_cases e : u = t
         · subst e
           exact ⟨fun _ z => absurd z c32, fun _ => q.2 (by omega)⟩
         · exact ⟨fun z1 z2 => q.1 (by omega) z2, fun z => q.2 (fun y => z ⟨by omega, y.2⟩)⟩)
      | (rw [← e0]
         refine ih (t + 1) (upI (upI S 392 t (nI 0)) 395 t (nI 0)) (by omega) ((hF.tr (Fr.upI (Or.inl rfl))).tr (Fr.upI (Or.inr rfl))) hd (fun u hu => ?_) h
         have q := hB u hu
         by_cases e : u = t
         · subst e
           refine ⟨fun _ _ => ⟨?_, ?_⟩, fun z => absurd ⟨by omega, c32⟩ z⟩
           · rw [upI_n (by omega), upI_s]
           · rw [upI_s]
         · rw [upI_n (by omega), upI_n (by omega), upI_n (by omega), upI_n (by omega)]
           exact ⟨fun z1 z2 => q.1 (by omega) z2, fun z => q.2 (fun y => z ⟨by omega, y.2⟩)⟩)
    · skip
      rw [if_pos c32] at e0
      refine G_aload_n (pc := 35) dX10_back_35 rfl rfl ?_
      refine S_getR (pc := 36) (b := 392) dX10_back_36 fX10_16 rfl rfl (by first | rfl | assumption) rfl rfl ?_
      refine G_iload_n (pc := 39) dX10_back_39 rfl rfl ?_
      refine G_iconst (pc := 40) (v := nI 0) dX10_back_40 (by decide) ?_
      refine N_iast (pc := 41) dX10_back_41 (by first | rfl | assumption) (by first | rfl | assumption) (by omega) ?_
      refine G_aload_n (pc := 42) dX10_back_42 rfl rfl ?_
      refine S_getR (pc := 43) (b := 395) dX10_back_43 fX10_25 rfl rfl (by first | rfl | assumption) rfl rfl ?_
      refine G_iload_n (pc := 46) dX10_back_46 rfl rfl ?_
      refine G_iconst (pc := 47) (v := nI 0) dX10_back_47 (by decide) ?_
      refine N_iast (pc := 48) dX10_back_48 (by first | rfl | assumption) (by first | rfl | assumption) (by omega) ?_
      refine N_iinc (pc := 49) dX10_back_49 rfl (by decide) rfl ?_
      refine N_iinc (pc := 52) dX10_back_52 rfl (by decide) rfl ?_
      refine G_goto (pc := 55) (tgt := 14) dX10_back_55 (by decide) ?_
      first
      | (rw [show bkC S0 dg t = bkC S0 dg (t + 1) from e0.symm]
         refine ih (t + 1) S (by omega) hF hd (fun u hu => ?_) h
         have q := hB u hu
         by_cases e : u = t
         · subst e
           exact ⟨fun _ z => absurd z c32, fun _ => q.2 (by omega)⟩
         · exact ⟨fun z1 z2 => q.1 (by omega) z2, fun z => q.2 (fun y => z ⟨by omega, y.2⟩)⟩)
      | (rw [← e0]
         refine ih (t + 1) (upI (upI S 392 t (nI 0)) 395 t (nI 0)) (by omega) ((hF.tr (Fr.upI (Or.inl rfl))).tr (Fr.upI (Or.inr rfl))) hd (fun u hu => ?_) h
         have q := hB u hu
         by_cases e : u = t
         · subst e
           refine ⟨fun _ _ => ⟨?_, ?_⟩, fun z => absurd ⟨by omega, c32⟩ z⟩
           · rw [upI_n (by omega), upI_s]
           · rw [upI_s]
         · rw [upI_n (by omega), upI_n (by omega), upI_n (by omega), upI_n (by omega)]
           exact ⟨fun z1 z2 => q.1 (by omega) z2, fun z => q.2 (fun y => z ⟨by omega, y.2⟩)⟩)
set_option maxRecDepth 100000 in
set_option maxHeartbeats 4000000 in
theorem sX10_back (ha : MIa S) (hg : MIg S) (h0 : dgN S = 0 → Q (some (aI (-4))) (mk S)) (h : 0 < dgN S → ∀ S', Fr kX kA S S' → S'.1 389 7 = nI (dgN S - 1) → BkIs S S' (dgN S) (thN S) → Q (some (aI (nI (bkC S (dgN S) (thN S))))) (mk S')) : CT sc mX10_back [aR 389] (mk S) Q := by
  refine S_of (by decide) rfl ?_
  show G sc mX10_back 0 [some (aR 389), none, none] [] (mk S) Q
  have hd := hg.1
  refine G_aload_n (pc := 0) dX10_back_0 rfl rfl ?_
  refine S_getI (pc := 1) dX10_back_1 fX10_278 rfl (by first | rfl | assumption) rfl ?_
  rw [hd.1]
  refine N_if_ne (pc := 4) (tgt := 10) dX10_back_4 (by decide) (by omega) (fun c4 => ?_) (fun c4 => ?_)
  · skip
    refine G_iconst (pc := 10) (v := nI 0) dX10_back_10 (by decide) ?_
    refine G_istore_n (pc := 11) dX10_back_11 rfl (by decide) rfl ?_
    refine G_iconst (pc := 12) (v := nI 0) dX10_back_12 (by decide) ?_
    refine G_istore_n (pc := 13) dX10_back_13 rfl (by decide) rfl ?_
    refine back_lp ha.1.1 ha.1.2 hd.1 (by omega) (fun t ht => ⟨(hg.2 t ht).1, by have := (hg.2 t ht).2.1; omega⟩) (thN S) 0 S (by omega) Fr.rf hd.1 (fun u hu => ⟨fun z => by omega, fun _ => ⟨rfl, rfl⟩⟩) (h (by omega))
  · skip
    refine G_bipush (pc := 7) (v := (-4)) dX10_back_7 (by decide) ?_
    refine S_iret (pc := 9) dX10_back_9 rfl ?_
    exact h0 c4
/-- an end as a list -/
def enl (S : ST) (t : Nat) : List Int32 := (List.range (esN S t)).map (enB S t)
theorem eqF_e {l : List Int32} {f : Nat → Int32} : eqF (fun i => l.getD i 0) f l.length 0 = decide (l = (List.range l.length).map f) := by
  by_cases e : l = (List.range l.length).map f
  · rw [decide_eq_true e]
    refine (eqF_iff _ _).mpr (fun j _ hj => ?_)
    have hj : j < l.length := by omega
    have h1 : l.getD j 0 = ((List.range l.length).map f).getD j 0 := by rw [← e]
    rw [h1, List.getD_eq_getElem?_getD, List.getElem?_map, List.getElem?_range hj]
    rfl
  · rw [decide_eq_false e]
    rcases hh : eqF (fun i => l.getD i 0) f l.length 0 with _ | _
    · rfl
    · refine absurd (List.ext_getElem (by simp) (fun i h1 h2 => ?_)) e
      have := (eqF_iff _ _).mp hh i (by omega) (by omega)
      simp only [List.getD_eq_getElem?_getD, List.getElem?_eq_getElem h1, Option.getD_some] at this
      rw [this]
      simp
def otB (S : ST) (t : Nat) (ps : List Nat) : Bool := decide (runP (lnB S t) (szN S t) ps = some (enl S t))
def otG (S : ST) (ps : List Nat) : Nat → Nat
  | 0 => 0
  | t + 1 => otG S ps t + (if stN S t = 2 ∧ otB S t ps = false then 1 else 0) * 2 ^ t
theorem otG_lt (S : ST) (ps : List Nat) : ∀ t, otG S ps t < 2 ^ t
  | 0 => by show 0 < 1; decide
  | t + 1 => by
    have := otG_lt S ps t
    rw [Nat.pow_succ]
    unfold otG
    split <;> omega
def sp_otherwise (S : ST) : Int32 := lackS S (nI (otG S (nr0 S) (thN S)))
set_option maxRecDepth 100000 in
set_option maxHeartbeats 4000000 in
theorem other_no {v : Int32} {bits t i n : Nat} (ht : t < 12) (hes : S.2.1 394 t = nI n) (hn : n ≤ 35) (hi : i ≤ 36) (h : G sc mX10_otherwise 120 [some (aR 389), some (aI v), some (aI (nI bits)), some (aI (nI t)), some (aI (bI false)), some (aI (nI i))] [] (mk S) Q) : G sc mX10_otherwise 69 [some (aR 389), some (aI v), some (aI (nI bits)), some (aI (nI t)), some (aI (bI false)), some (aI (nI i))] [] (mk S) Q := by
  refine G_iload (pc := 69) dX10_otherwise_69 rfl ?_
  refine G_aload_n (pc := 71) dX10_otherwise_71 rfl rfl ?_
  refine S_getR (pc := 72) (b := 394) dX10_otherwise_72 fX10_22 rfl rfl (by first | rfl | assumption) rfl rfl ?_
  refine G_iload_n (pc := 75) dX10_otherwise_75 rfl rfl ?_
  refine N_iald (pc := 76) dX10_otherwise_76 (by first | rfl | assumption) (by first | rfl | assumption) (by omega) ?_
  rw [hes]
  refine N_icmp_ge (pc := 77) (tgt := 120) dX10_otherwise_77 (by decide) (by omega) (fun c77 => ?_) (fun c77 => ?_)
  · skip
    exact h
  · skip
    refine G_iload (pc := 80) dX10_otherwise_80 rfl ?_
    refine B_if_eq (pc := 82) (tgt := 120) dX10_otherwise_82 (by decide) (fun c82 => ?_) (fun c82 => absurd c82 (by decide))
    exact h
set_option maxRecDepth 100000 in
set_option maxHeartbeats 4000000 in
theorem other_in {v : Int32} {bits t : Nat} {l : List Int32} (ht : t < 12) (hl : OutIs S l) (hes : S.2.1 394 t = nI l.length) (hn : l.length ≤ 35) (h : ∀ (b : Bool) (i : Nat), b = eqF (fun i => l.getD i 0) (enB S t) l.length 0 → G sc mX10_otherwise 120 [some (aR 389), some (aI v), some (aI (nI bits)), some (aI (nI t)), some (aI (bI b)), some (aI (nI i))] [] (mk S) Q) :
    ∀ (d i : Nat), i + d = l.length → eqF (fun i => l.getD i 0) (enB S t) l.length 0 = eqF (fun i => l.getD i 0) (enB S t) d i →
      G sc mX10_otherwise 69 [some (aR 389), some (aI v), some (aI (nI bits)), some (aI (nI t)), some (aI (bI true)), some (aI (nI i))] [] (mk S) Q := by
  intro d
  induction d with
  | zero =>
    intro i hi e
    refine G_iload (pc := 69) dX10_otherwise_69 rfl ?_
    refine G_aload_n (pc := 71) dX10_otherwise_71 rfl rfl ?_
    refine S_getR (pc := 72) (b := 394) dX10_otherwise_72 fX10_22 rfl rfl (by first | rfl | assumption) rfl rfl ?_
    refine G_iload_n (pc := 75) dX10_otherwise_75 rfl rfl ?_
    refine N_iald (pc := 76) dX10_otherwise_76 (by first | rfl | assumption) (by first | rfl | assumption) (by omega) ?_
    rw [hes]
    refine N_icmp_ge (pc := 77) (tgt := 120) dX10_otherwise_77 (by decide) (by omega) (fun c77 => ?_) (fun c77 => absurd c77 (by omega))
    exact h true _ e.symm
  | succ d ih =>
    intro i hi e
    have e0 : eqF (fun i => l.getD i 0) (enB S t) (d + 1) i = (decide ((l.getD i 0).toInt = (enB S t i).toInt) && eqF (fun i => l.getD i 0) (enB S t) d (i + 1)) := rfl
    rw [e0] at e
    refine G_iload (pc := 69) dX10_otherwise_69 rfl ?_
    refine G_aload_n (pc := 71) dX10_otherwise_71 rfl rfl ?_
    refine S_getR (pc := 72) (b := 394) dX10_otherwise_72 fX10_22 rfl rfl (by first | rfl | assumption) rfl rfl ?_
    refine G_iload_n (pc := 75) dX10_otherwise_75 rfl rfl ?_
    refine N_iald (pc := 76) dX10_otherwise_76 (by first | rfl | assumption) (by first | rfl | assumption) (by omega) ?_
    rw [hes]
    refine N_icmp_ge (pc := 77) (tgt := 120) dX10_otherwise_77 (by decide) (by omega) (fun c77 => absurd c77 (by omega)) (fun c77 => ?_)
    refine G_iload (pc := 80) dX10_otherwise_80 rfl ?_
    refine B_if_eq (pc := 82) (tgt := 120) dX10_otherwise_82 (by decide) (fun c82 => absurd c82 (by decide)) (fun c82 => ?_)
    refine G_aload_n (pc := 85) dX10_otherwise_85 rfl rfl ?_
    refine S_getR (pc := 86) (b := 397) dX10_otherwise_86 fX10_31 rfl rfl (by first | rfl | assumption) rfl rfl ?_
    refine G_iload (pc := 89) dX10_otherwise_89 rfl ?_
    refine N_iald (pc := 91) dX10_otherwise_91 (by first | rfl | assumption) (by first | rfl | assumption) (by omega) ?_
    rw [hl.2 i (by omega)]
    refine G_aload_n (pc := 92) dX10_otherwise_92 rfl rfl ?_
    refine S_getR (pc := 93) (b := 393) dX10_otherwise_93 fX10_19 rfl rfl (by first | rfl | assumption) rfl rfl ?_
    refine G_bipush (pc := 96) (v := nI 36) dX10_otherwise_96 (by decide) ?_
    refine G_iload_n (pc := 98) dX10_otherwise_98 rfl rfl ?_
    refine N_imul (pc := 99) dX10_otherwise_99 ?_
    refine G_iload (pc := 100) dX10_otherwise_100 rfl ?_
    refine N_iadd (pc := 102) dX10_otherwise_102 ?_
    refine N_iald (pc := 103) dX10_otherwise_103 (by first | rfl | assumption) (by first | rfl | assumption) (by omega) ?_
    refine T_icmp_ne (pc := 104) (tgt := 111) dX10_otherwise_104 (by decide) (fun c104 => ?_) (fun c104 => ?_)
    · skip
      rw [decide_eq_false c104] at e
      refine G_iconst (pc := 111) (v := nI 0) dX10_otherwise_111 (by decide) ?_
      refine G_istore (pc := 112) dX10_otherwise_112 (by decide) rfl ?_
      refine N_iinc (pc := 114) dX10_otherwise_114 rfl (by decide) rfl ?_
      refine G_goto (pc := 117) (tgt := 69) dX10_otherwise_117 (by decide) ?_
      first
      | exact other_no ht hes hn (by omega) (h false _ e.symm)
      | exact ih (i + 1) (by omega) e
    · skip
      rw [decide_eq_true c104] at e
      refine G_iconst (pc := 107) (v := nI 1) dX10_otherwise_107 (by decide) ?_
      refine G_goto (pc := 108) (tgt := 112) dX10_otherwise_108 (by decide) ?_
      refine G_istore (pc := 112) dX10_otherwise_112 (by decide) rfl ?_
      refine N_iinc (pc := 114) dX10_otherwise_114 rfl (by decide) rfl ?_
      refine G_goto (pc := 117) (tgt := 69) dX10_otherwise_117 (by decide) ?_
      first
      | exact other_no ht hes hn (by omega) (h false _ e.symm)
      | exact ih (i + 1) (by omega) e
set_option maxRecDepth 100000 in
set_option maxHeartbeats 4000000 in
theorem other_lp {S0 : ST} {ps : List Nat} {v : Int32} (ha : MIa S0) (hb : MIb S0) (hok : PgOk ps) :
    ∀ (d t : Nat) (S : ST) (o4 o5 : Option AV), t + d = thN S0 → Fr wX wA S0 S → MIe S → PrIs S 404 0 ps → (∀ S', Fr wX wA S0 S' → MIe S' → Q (some (aI (nI (otG S0 ps (thN S0))))) (mk S')) →
      G sc mX10_otherwise 15 [some (aR 389), some (aI v), some (aI (nI (otG S0 ps t))), some (aI (nI t)), o4, o5] [] (mk S) Q := by
  have h12 := ha.1.2
  intro d
  induction d with
  | zero =>
    intro t S o4 o5 ht hF he hp h
    have e : t = thN S0 := by omega
    subst e
    refine G_iload_n (pc := 15) dX10_otherwise_15 rfl rfl ?_
    refine G_aload_n (pc := 16) dX10_otherwise_16 rfl rfl ?_
    refine S_getI (pc := 17) dX10_otherwise_17 fX10_80 rfl (by first | rfl | assumption) rfl ?_
    rw [(hF.1 389 0 (by omega)).trans ha.1.1]
    refine N_icmp_ge (pc := 20) (tgt := 141) dX10_otherwise_20 (by decide) (by omega) (fun c20 => ?_) (fun c20 => absurd c20 (by omega))
    refine G_iload_n (pc := 141) dX10_otherwise_141 rfl rfl ?_
    refine S_iret (pc := 142) dX10_otherwise_142 rfl ?_
    exact h S hF he
  | succ d ih =>
    intro t S o4 o5 ht hF he hp h
    have hs := ha.2 t (by omega)
    have hst := hb t (by omega)
    have w1 := SpW_wf hF
    have hol := otG_lt S0 ps t
    have h2 := p2_le (show t ≤ 12 by omega)
    have e0 : otG S0 ps (t + 1) = otG S0 ps t + (if stN S0 t = 2 ∧ otB S0 t ps = false then 1 else 0) * 2 ^ t := rfl
    have N : ∀ (w : Nat) (S2 : ST) (o4 o5 : Option AV), Fr wX wA S0 S2 → MIe S2 → PrIs S2 404 0 ps → w = otG S0 ps (t + 1) → G sc mX10_otherwise 135 [some (aR 389), some (aI v), some (aI (nI w)), some (aI (nI t)), o4, o5] [] (mk S2) Q := by
      intro w S2 o4 o5 f1 f2 f3 hw
      rw [hw]
      refine N_iinc (pc := 135) dX10_otherwise_135 rfl (by decide) rfl ?_
      refine G_goto (pc := 138) (tgt := 15) dX10_otherwise_138 (by decide) ?_
      exact ih (t + 1) S2 _ _ (by omega) f1 f2 f3 h
    have N2 : ∀ (b : Bool) (i : Nat) (S2 : ST), Fr wX wA S0 S2 → MIe S2 → PrIs S2 404 0 ps → stN S0 t = 2 → b = otB S0 t ps → G sc mX10_otherwise 120 [some (aR 389), some (aI v), some (aI (nI (otG S0 ps t))), some (aI (nI t)), some (aI (bI b)), some (aI (nI i))] [] (mk S2) Q := by
      intro b i S2 f1 f2 f3 h3 hb2
      have N := fun w o4 o5 => N w S2 o4 o5 f1 f2 f3
      refine G_iload_n (pc := 120) dX10_otherwise_120 rfl rfl ?_
      refine G_iload (pc := 121) dX10_otherwise_121 rfl ?_
      refine B_if_eq (pc := 123) (tgt := 130) dX10_otherwise_123 (by decide) (fun c123 => ?_) (fun c123 => ?_)
      · skip
        rw [if_pos ⟨h3, by rw [← hb2, c123]⟩] at e0
        refine G_iconst (pc := 130) (v := nI 1) dX10_otherwise_130 (by decide) ?_
        refine G_iload_n (pc := 131) dX10_otherwise_131 rfl rfl ?_
        refine G_ishl (pc := 132) dX10_otherwise_132 ?_
        rw [shlN (by omega) (by omega)]
        refine G_ior (pc := 133) dX10_otherwise_133 ?_
        first
        | rw [show nI (otG S0 ps t) ||| nI 0 = nI (otG S0 ps t + 0 * 2 ^ t) from by rw [← orN 0 hol]; simp]
        | rw [orN 1 hol]
        refine G_istore_n (pc := 134) dX10_otherwise_134 rfl (by decide) rfl ?_
        exact N _ _ _ e0.symm
      · skip
        rw [if_neg (fun q => by rw [← hb2, c123] at q; exact absurd q.2 (by decide))] at e0
        refine G_iconst (pc := 126) (v := nI 0) dX10_otherwise_126 (by decide) ?_
        refine G_goto (pc := 127) (tgt := 133) dX10_otherwise_127 (by decide) ?_
        refine G_ior (pc := 133) dX10_otherwise_133 ?_
        first
        | rw [show nI (otG S0 ps t) ||| nI 0 = nI (otG S0 ps t + 0 * 2 ^ t) from by rw [← orN 0 hol]; simp]
        | rw [orN 1 hol]
        refine G_istore_n (pc := 134) dX10_otherwise_134 rfl (by decide) rfl ?_
        exact N _ _ _ e0.symm
    refine G_iload_n (pc := 15) dX10_otherwise_15 rfl rfl ?_
    refine G_aload_n (pc := 16) dX10_otherwise_16 rfl rfl ?_
    refine S_getI (pc := 17) dX10_otherwise_17 fX10_80 rfl (by first | rfl | assumption) rfl ?_
    rw [(hF.1 389 0 (by omega)).trans ha.1.1]
    refine N_icmp_ge (pc := 20) (tgt := 141) dX10_otherwise_20 (by decide) (by omega) (fun c20 => absurd c20 (by omega)) (fun c20 => ?_)
    refine G_aload_n (pc := 23) dX10_otherwise_23 rfl rfl ?_
    refine S_getR (pc := 24) (b := 392) dX10_otherwise_24 fX10_16 rfl rfl (by first | rfl | assumption) rfl rfl ?_
    refine G_iload_n (pc := 27) dX10_otherwise_27 rfl rfl ?_
    refine N_iald (pc := 28) dX10_otherwise_28 (by first | rfl | assumption) (by first | rfl | assumption) (by omega) ?_
    rw [(hF.2.1 392 (by omega) t).trans hst.1.1]
    refine G_iconst (pc := 29) (v := nI 2) dX10_otherwise_29 (by decide) ?_
    refine N_icmp_ne (pc := 30) (tgt := 135) dX10_otherwise_30 (by decide) (by omega) (fun c30 => ?_) (fun c30 => ?_)
    · skip
      exact N _ S _ _ hF he hp (by rw [e0, if_neg (fun q => c30 q.1)]; omega)
    · skip
      refine G_aload_n (pc := 33) dX10_otherwise_33 rfl rfl ?_
      refine G_aload_n (pc := 34) dX10_otherwise_34 rfl rfl ?_
      refine S_getR (pc := 35) (b := 404) dX10_otherwise_35 fX10_53 rfl rfl (by first | rfl | assumption) rfl rfl ?_
      refine G_iconst (pc := 38) (v := nI 0) dX10_otherwise_38 (by decide) ?_
      refine G_iload_n (pc := 39) dX10_otherwise_39 rfl rfl ?_
      refine S_callV (av := [_, _, _]) (pc := 40) (z := mX10_runRow) (ci := 9) dX10_otherwise_40 zX10_runRow lX10_otherwise_243 rfl (by first | rfl | assumption) rfl rfl (sX10_runRow (z := 192) (n := szN S0 t) (by omega) ((wSz hF t).trans hs.1) hs.2.2.1 rfl rfl (by omega) (by omega) hp hok.1 (fun S2 q k1 k2 k3 => ⟨_, rfl, ?_⟩) (fun k1 S2 k2 k3 => ⟨_, rfl, ?_⟩))
      · rw [wLn hF] at k1
        have hq := runP_le hs.2.2.1 hok k1
        have f1 := hF.tr (wO k2)
        have f2 := MIe_o k2 he
        have f3 : PrIs S2 404 0 ps := PrIs_k hp (fun i _ => k2.2.1 404 (by omega) _)
        have es : S2.2.1 394 t = nI (esN S0 t) := (f1.2.1 394 (by omega) t).trans hst.2.1.1
        have ee : enB S2 t = enB S0 t := enB_w (SpW_wf f1) t
        have eo : otB S0 t ps = decide (q = enl S0 t) := by
          unfold otB
          rw [k1]
          exact dec_b ⟨fun z => by cases z; rfl, fun z => by rw [z]⟩
        refine B_if_eq (pc := 43) (tgt := 63) dX10_otherwise_43 (by decide) (fun c43 => absurd c43 (by decide)) (fun c43 => ?_)
        refine G_aload_n (pc := 46) dX10_otherwise_46 rfl rfl ?_
        refine S_getI (pc := 47) dX10_otherwise_47 fX10_150 rfl (by first | rfl | assumption) rfl ?_
        rw [k3.1]
        refine G_aload_n (pc := 50) dX10_otherwise_50 rfl rfl ?_
        refine S_getR (pc := 51) (b := 394) dX10_otherwise_51 fX10_22 rfl rfl (by first | rfl | assumption) rfl rfl ?_
        refine G_iload_n (pc := 54) dX10_otherwise_54 rfl rfl ?_
        refine N_iald (pc := 55) dX10_otherwise_55 (by first | rfl | assumption) (by first | rfl | assumption) (by omega) ?_
        rw [es]
        refine N_icmp_ne (pc := 56) (tgt := 63) dX10_otherwise_56 (by decide) (by omega) (fun c56 => ?_) (fun c56 => ?_)
        · skip
          refine G_iconst (pc := 63) (v := nI 0) dX10_otherwise_63 (by decide) ?_
          refine G_istore (pc := 64) dX10_otherwise_64 (by decide) rfl ?_
          refine G_iconst (pc := 66) (v := nI 0) dX10_otherwise_66 (by decide) ?_
          refine G_istore (pc := 67) dX10_otherwise_67 (by decide) rfl ?_
          first
          | exact other_no (n := esN S0 t) (by omega) es hst.2.1.2 (by omega) (N2 false _ S2 f1 f2 f3 c30 (by rw [eo, decide_eq_false]; intro z; exact c56 (by rw [z]; unfold enl; simp)))
          | exact other_in (l := q) (by omega) k3 (by rw [c56]; exact es) (by omega) (fun b i hb2 => N2 b i S2 f1 f2 f3 c30 (by rw [hb2, eo, eqF_e, ee]; unfold enl; rw [← c56])) q.length 0 (by omega) rfl
        · skip
          refine G_iconst (pc := 59) (v := nI 1) dX10_otherwise_59 (by decide) ?_
          refine G_goto (pc := 60) (tgt := 64) dX10_otherwise_60 (by decide) ?_
          refine G_istore (pc := 64) dX10_otherwise_64 (by decide) rfl ?_
          refine G_iconst (pc := 66) (v := nI 0) dX10_otherwise_66 (by decide) ?_
          refine G_istore (pc := 67) dX10_otherwise_67 (by decide) rfl ?_
          first
          | exact other_no (n := esN S0 t) (by omega) es hst.2.1.2 (by omega) (N2 false _ S2 f1 f2 f3 c30 (by rw [eo, decide_eq_false]; intro z; exact c56 (by rw [z]; unfold enl; simp)))
          | exact other_in (l := q) (by omega) k3 (by rw [c56]; exact es) (by omega) (fun b i hb2 => N2 b i S2 f1 f2 f3 c30 (by rw [hb2, eo, eqF_e, ee]; unfold enl; rw [← c56])) q.length 0 (by omega) rfl
      rw [wLn hF] at k1
      have f1 := hF.tr (wO k2)
      have f2 := MIe_o k2 he
      have f3 : PrIs S2 404 0 ps := PrIs_k hp (fun i _ => k2.2.1 404 (by omega) _)
      have es : S2.2.1 394 t = nI (esN S0 t) := (f1.2.1 394 (by omega) t).trans hst.2.1.1
      skip
      refine B_if_eq (pc := 43) (tgt := 63) dX10_otherwise_43 (by decide) (fun c43 => ?_) (fun c43 => absurd c43 (by decide))
      refine G_iconst (pc := 63) (v := nI 0) dX10_otherwise_63 (by decide) ?_
      refine G_istore (pc := 64) dX10_otherwise_64 (by decide) rfl ?_
      refine G_iconst (pc := 66) (v := nI 0) dX10_otherwise_66 (by decide) ?_
      refine G_istore (pc := 67) dX10_otherwise_67 (by decide) rfl ?_
      exact other_no (n := esN S0 t) (by omega) es hst.2.1.2 (by omega) (N2 false _ S2 f1 f2 f3 c30 (by unfold otB; rw [k1, decide_eq_false]; intro z; cases z))
set_option maxRecDepth 100000 in
set_option maxHeartbeats 4000000 in
theorem sX10_otherwise (hi : MI0 S) (h : ∀ S', Fr wX wA S S' → MIe S' → Q (some (aI (sp_otherwise S))) (mk S')) : CT sc mX10_otherwise [aR 389] (mk S) Q := by
  refine S_of (by decide) rfl ?_
  show G sc mX10_otherwise 0 [some (aR 389), none, none, none, none, none] [] (mk S) Q
  unfold sp_otherwise at h
  refine G_aload_n (pc := 0) dX10_otherwise_0 rfl rfl ?_
  refine S_callV (av := []) (pc := 1) (z := mX10_lacksFit) (ci := 9) dX10_otherwise_1 zX10_lacksFit lX10_otherwise_235 rfl (by first | rfl | assumption) rfl rfl (sX10_lacksFit hi (fun e => ⟨_, rfl, ?_⟩) (fun e1 e2 S1 g1 g2 => ⟨_, rfl, ?_⟩) (fun e1 e2 S1 g1 g2 g3 => ⟨_, rfl, ?_⟩))
  · rw [lackS_2 e] at h
    refine G_istore_n (pc := 4) dX10_otherwise_4 rfl (by decide) rfl ?_
    refine G_iload_n (pc := 5) dX10_otherwise_5 rfl rfl ?_
    refine T_if_ge (pc := 6) (tgt := 11) dX10_otherwise_6 (by decide) (fun c6 => absurd c6 (by decide)) (fun c6 => ?_)
    refine G_iload_n (pc := 9) dX10_otherwise_9 rfl rfl ?_
    refine S_iret (pc := 10) dX10_otherwise_10 rfl ?_
    exact h S Fr.rf hi.2.2.1
  · rw [lackS_4 e1 e2] at h
    refine G_istore_n (pc := 4) dX10_otherwise_4 rfl (by decide) rfl ?_
    refine G_iload_n (pc := 5) dX10_otherwise_5 rfl rfl ?_
    refine T_if_ge (pc := 6) (tgt := 11) dX10_otherwise_6 (by decide) (fun c6 => absurd c6 (by decide)) (fun c6 => ?_)
    refine G_iload_n (pc := 9) dX10_otherwise_9 rfl rfl ?_
    refine S_iret (pc := 10) dX10_otherwise_10 rfl ?_
    exact h S1 g1 g2
  rw [lackS_0 e1 e2] at h
  have hp := nr0_ok hi e1 e2
  skip
  refine G_istore_n (pc := 4) dX10_otherwise_4 rfl (by decide) rfl ?_
  refine G_iload_n (pc := 5) dX10_otherwise_5 rfl rfl ?_
  refine N_if_ge (pc := 6) (tgt := 11) dX10_otherwise_6 (by decide) (by omega) ?_
  refine G_iconst (pc := 11) (v := nI 0) dX10_otherwise_11 (by decide) ?_
  refine G_istore_n (pc := 12) dX10_otherwise_12 rfl (by decide) rfl ?_
  refine G_iconst (pc := 13) (v := nI 0) dX10_otherwise_13 (by decide) ?_
  refine G_istore_n (pc := 14) dX10_otherwise_14 rfl (by decide) rfl ?_
  exact other_lp hi.1 hi.2.1 hp (thN S) 0 S1 _ _ (by omega) g1 g2 (NeIs0 g3 e2) h
set_option maxRecDepth 100000 in
set_option maxHeartbeats 4000000 in
theorem sX10_keep (hi : MI0 S) (hd : MId S) (h2 : shL S 0 = [] → Q (some (aI (-2))) (mk S)) (h4 : shL S 0 ≠ [] → neA S (shL S 0) = [] → ∀ S', Fr wX wA S S' → MIe S' → Q (some (aI (-4))) (mk S')) (hfull : shL S 0 ≠ [] → neA S (shL S 0) ≠ [] → kpN S = 4 → ∀ S', Fr wX wA S S' → MIe S' → Q (some (aI (-3))) (mk S'))
    (h : shL S 0 ≠ [] → neA S (shL S 0) ≠ [] → kpN S < 4 → ∀ S', Fr wX wA S S' → MIe S' → PrIs S' 404 0 (nr0 S) → Q (some (aI (nI (kpN S)))) (mk (upX (upR S' 408 (3 * kpN S) 3 (S'.2.1 404)) 389 28 (nI (kpN S + 1))))) : CT sc mX10_keep [aR 389] (mk S) Q := by
  refine S_of (by decide) rfl ?_
  show G sc mX10_keep 0 [some (aR 389), none] [] (mk S) Q
  refine G_aload_n (pc := 0) dX10_keep_0 rfl rfl ?_
  refine S_callV (av := []) (pc := 1) (z := mX10_lacksFit) (ci := 9) dX10_keep_1 zX10_lacksFit lX10_keep_235 rfl (by first | rfl | assumption) rfl rfl (sX10_lacksFit hi (fun e => ⟨_, rfl, ?_⟩) (fun e1 e2 S1 g1 g2 => ⟨_, rfl, ?_⟩) (fun e1 e2 S1 g1 g2 g3 => ⟨_, rfl, ?_⟩))
  · skip
    refine G_istore_n (pc := 4) dX10_keep_4 rfl (by decide) rfl ?_
    refine G_iload_n (pc := 5) dX10_keep_5 rfl rfl ?_
    refine T_if_ge (pc := 6) (tgt := 13) dX10_keep_6 (by decide) (fun c6 => absurd c6 (by decide)) (fun c6 => ?_)
    refine G_iload_n (pc := 9) dX10_keep_9 rfl rfl ?_
    refine G_goto (pc := 10) (tgt := 21) dX10_keep_10 (by decide) ?_
    refine S_iret (pc := 21) dX10_keep_21 rfl ?_
    exact h2 e
  · skip
    refine G_istore_n (pc := 4) dX10_keep_4 rfl (by decide) rfl ?_
    refine G_iload_n (pc := 5) dX10_keep_5 rfl rfl ?_
    refine T_if_ge (pc := 6) (tgt := 13) dX10_keep_6 (by decide) (fun c6 => absurd c6 (by decide)) (fun c6 => ?_)
    refine G_iload_n (pc := 9) dX10_keep_9 rfl rfl ?_
    refine G_goto (pc := 10) (tgt := 21) dX10_keep_10 (by decide) ?_
    refine S_iret (pc := 21) dX10_keep_21 rfl ?_
    exact h4 e1 e2 S1 g1 g2
  skip
  refine G_istore_n (pc := 4) dX10_keep_4 rfl (by decide) rfl ?_
  refine G_iload_n (pc := 5) dX10_keep_5 rfl rfl ?_
  refine N_if_ge (pc := 6) (tgt := 13) dX10_keep_6 (by decide) (by omega) ?_
  refine G_aload_n (pc := 13) dX10_keep_13 rfl rfl ?_
  refine G_aload_n (pc := 14) dX10_keep_14 rfl rfl ?_
  refine S_getR (pc := 15) (b := 404) dX10_keep_15 fX10_53 rfl rfl (by first | rfl | assumption) rfl rfl ?_
  refine S_callV (av := [_]) (pc := 18) (z := mX10_addKept) (ci := 9) dX10_keep_18 zX10_addKept lX10_keep_284 rfl (by first | rfl | assumption) rfl rfl (sX10_addKept (z := 192) (k := kpN S) hd.1.2 rfl rfl (by omega) (by omega) ((g1.1 389 28 (by omega)).trans hd.1.1) (fun e => ⟨_, rfl, ?_⟩) (fun e => ⟨_, rfl, ?_⟩))
  · skip
    refine S_iret (pc := 21) dX10_keep_21 rfl ?_
    exact hfull e1 e2 e S1 g1 g2
  refine S_iret (pc := 21) dX10_keep_21 rfl ?_
  exact h e1 e2 e S1 g1 g2 (NeIs0 g3 e2)
end M35
