/-! the model: findEnds, areAlike, sortEnds, differs, settle -/
/-- what the nearest programs make of the thing t -/
def eF (S : ST) (t : Nat) (N : List (List Nat)) (p : Nat) : List Int32 := (runP (lnB S t) (szN S t) (N.getD p [])).getD []
def EdIs (S : ST) (f : Nat → List Int32) (n : Nat) : Prop := ∀ p, p < n → S.2.1 406 p = nI (f p).length ∧ ∀ i, i < (f p).length → S.2.1 405 (36 * p + i) = (f p).getD i 0
abbrev dX (a j : Nat) : Prop := a = 389 ∧ j = 12
abbrev dA (a : Nat) : Prop := a = 397 ∨ a = 405 ∨ a = 406
theorem dO {S S' : ST} (h : Fr oX oA S S') : Fr dX dA S S' := h.mono (fun a j q => q) (fun a q => Or.inl q)
theorem wD {S S' : ST} (h : Fr dX dA S S') : Fr wX wA S S' := h.mono (fun a j q => ⟨q.1, by omega⟩) (fun a q => by constructor <;> omega)
theorem MIe_d {S S' : ST} (g : Fr dX dA S S') (h : MIe S) : MIe S' := MIe_k h (g.1 389 18 (by omega)) (fun a ha i => g.2.1 a (by omega) i)
theorem NeIs_d {S S' : ST} {N : List (List Nat)} (g : Fr dX dA S S') (h : NeIs S N) : NeIs S' N := ⟨h.1, (g.1 389 22 (by omega)).trans h.2.1, fun i hi => PrIs_k (h.2.2 i hi) (fun j _ => g.2.1 404 (by omega) _)⟩
theorem Fr.upR {px : Nat → Nat → Prop} {pi : Nat → Prop} {S : ST} {a b n : Nat} {f : Nat → Int32} (h : pi a) : Fr px pi S (upR S a b n f) := ⟨fun _ _ _ => rfl, fun c q i => upR_n (fun z => q (by rw [z.1]; exact h)), rfl⟩
theorem eF_le {S : ST} {t : Nat} {N : List (List Nat)} {p : Nat} (hn : szN S t ≤ 16) (hN : PsOk N) (hp : p < N.length) : (eF S t N p).length ≤ 36 := by
  have h1 : PgOk (N.getD p []) := hN _ (by rw [List.getD_eq_getElem?_getD, List.getElem?_eq_getElem hp]; exact List.getElem_mem _)
  unfold eF
  rcases hr : runP (lnB S t) (szN S t) (N.getD p []) with _ | q
  · simp
  · exact runP_le hn h1 hr
theorem PsOk.at {N : List (List Nat)} (hN : PsOk N) {p : Nat} (hp : p < N.length) : PgOk (N.getD p []) := hN _ (by rw [List.getD_eq_getElem?_getD, List.getElem?_eq_getElem hp]; exact List.getElem_mem _)
section M31
variable {sc : SC} {S : ST} {Q : Option AV → HM → Prop}
set_option maxRecDepth 100000 in
set_option maxHeartbeats 4000000 in
theorem findEnds_in {t p : Nat} {l : List Int32} (hp : p < 64) (hl : S.1 389 12 = nI l.length) (hlen : l.length ≤ 36) :
    ∀ (d j : Nat), j + d = l.length → G sc mX10_findEnds 66 [some (aR 389), some (aI (nI t)), some (aI (nI p)), some (aI (nI l.length))] [] (mk (upR S 405 (36 * p) l.length (S.2.1 397))) Q →
      G sc mX10_findEnds 35 [some (aR 389), some (aI (nI t)), some (aI (nI p)), some (aI (nI j))] [] (mk (upR S 405 (36 * p) j (S.2.1 397))) Q := by
  intro d
  induction d with
  | zero =>
    intro j hj h
    have e : j = l.length := by omega
    subst e
    refine G_iload_n (pc := 35) dX10_findEnds_35 rfl rfl ?_
    refine G_aload_n (pc := 36) dX10_findEnds_36 rfl rfl ?_
    refine S_getI (pc := 37) dX10_findEnds_37 fX10_150 rfl (by first | rfl | assumption) rfl ?_
    rw [show (upR S 405 (36 * p) l.length (S.2.1 397)).1 389 12 = nI l.length from hl]
    refine N_icmp_ge (pc := 40) (tgt := 66) dX10_findEnds_40 (by decide) (by omega) (fun c40 => ?_) (fun c40 => absurd c40 (by omega))
    exact h
  | succ d ih =>
    intro j hj h
    refine G_iload_n (pc := 35) dX10_findEnds_35 rfl rfl ?_
    refine G_aload_n (pc := 36) dX10_findEnds_36 rfl rfl ?_
    refine S_getI (pc := 37) dX10_findEnds_37 fX10_150 rfl (by first | rfl | assumption) rfl ?_
    rw [show (upR S 405 (36 * p) j (S.2.1 397)).1 389 12 = nI l.length from hl]
    refine N_icmp_ge (pc := 40) (tgt := 66) dX10_findEnds_40 (by decide) (by omega) (fun c40 => absurd c40 (by omega)) (fun c40 => ?_)
    refine G_aload_n (pc := 43) dX10_findEnds_43 rfl rfl ?_
    refine S_getR (pc := 44) (b := 405) dX10_findEnds_44 fX10_56 rfl rfl (by first | rfl | assumption) rfl rfl ?_
    refine G_bipush (pc := 47) (v := nI 36) dX10_findEnds_47 (by decide) ?_
    refine G_iload_n (pc := 49) dX10_findEnds_49 rfl rfl ?_
    refine N_imul (pc := 50) dX10_findEnds_50 ?_
    refine G_iload_n (pc := 51) dX10_findEnds_51 rfl rfl ?_
    refine N_iadd (pc := 52) dX10_findEnds_52 ?_
    refine G_aload_n (pc := 53) dX10_findEnds_53 rfl rfl ?_
    refine S_getR (pc := 54) (b := 397) dX10_findEnds_54 fX10_31 rfl rfl (by first | rfl | assumption) rfl rfl ?_
    refine G_iload_n (pc := 57) dX10_findEnds_57 rfl rfl ?_
    refine N_iald (pc := 58) dX10_findEnds_58 (by first | rfl | assumption) (by first | rfl | assumption) (by omega) ?_
    rw [show (upR S 405 (36 * p) j (S.2.1 397)).2.1 397 j = S.2.1 397 j from upR_n (by omega)]
    refine N_iast (pc := 59) dX10_findEnds_59 (by first | rfl | assumption) (by first | rfl | assumption) (by omega) ?_
    rw [upR_s]
    refine N_iinc (pc := 60) dX10_findEnds_60 rfl (by decide) rfl ?_
    refine G_goto (pc := 63) (tgt := 35) dX10_findEnds_63 (by decide) ?_
    exact ih (j + 1) (by omega) h
set_option maxRecDepth 100000 in
set_option maxHeartbeats 4000000 in
theorem findEnds_lp {S0 : ST} {t : Nat} {N : List (List Nat)} (ht : t < 12) (hsz : S0.2.1 391 t = nI (szN S0 t)) (hn : szN S0 t ≤ 16) (hN : NeIs S0 N) (hok : PsOk N) :
    ∀ (d p : Nat) (S : ST) (o3 : Option AV), p + d = N.length → Fr dX dA S0 S → EdIs S (eF S0 t N) p → (∀ S', Fr dX dA S0 S' → EdIs S' (eF S0 t N) N.length → Q none (mk S')) →
      G sc mX10_findEnds 2 [some (aR 389), some (aI (nI t)), some (aI (nI p)), o3] [] (mk S) Q := by
  intro d
  induction d with
  | zero =>
    intro p S o3 hp hF hE h
    have hNl := hN.1
    have e : p = N.length := by omega
    subst e
    refine G_iload_n (pc := 2) dX10_findEnds_2 rfl rfl ?_
    refine G_aload_n (pc := 3) dX10_findEnds_3 rfl rfl ?_
    refine S_getI (pc := 4) dX10_findEnds_4 fX10_216 rfl (by first | rfl | assumption) rfl ?_
    rw [(NeIs_d hF hN).2.1]
    refine N_icmp_ge (pc := 7) (tgt := 72) dX10_findEnds_7 (by decide) (by omega) (fun c7 => ?_) (fun c7 => absurd c7 (by omega))
    refine S_vret (pc := 72) dX10_findEnds_72 rfl ?_
    exact h S hF hE
  | succ d ih =>
    intro p S o3 hp hF hE h
    have hNl := hN.1
    have hNS := NeIs_d hF hN
    have hl := eF_le hn hok (show p < N.length by omega)
    have hpg := hok.at (show p < N.length by omega)
    have K : ∀ (S2 : ST) (b : Bool), Fr oX oA S S2 → OutIs S2 (eF S0 t N p) → G sc mX10_findEnds 22 [some (aR 389), some (aI (nI t)), some (aI (nI p)), o3] [aI (bI b)] (mk S2) Q := by
      intro S2 b g1 g2
      refine G_pop (pc := 22) dX10_findEnds_22 rfl ?_
      refine G_aload_n (pc := 23) dX10_findEnds_23 rfl rfl ?_
      refine S_getR (pc := 24) (b := 406) dX10_findEnds_24 fX10_59 rfl rfl (by first | rfl | assumption) rfl rfl ?_
      refine G_iload_n (pc := 27) dX10_findEnds_27 rfl rfl ?_
      refine G_aload_n (pc := 28) dX10_findEnds_28 rfl rfl ?_
      refine S_getI (pc := 29) dX10_findEnds_29 fX10_150 rfl (by first | rfl | assumption) rfl ?_
      rw [g2.1]
      refine N_iast (pc := 32) dX10_findEnds_32 (by first | rfl | assumption) (by first | rfl | assumption) (by omega) ?_
      refine G_iconst (pc := 33) (v := nI 0) dX10_findEnds_33 (by decide) ?_
      refine G_istore_n (pc := 34) dX10_findEnds_34 rfl (by decide) rfl ?_
      have e0 : mk (upI S2 406 p (nI (eF S0 t N p).length)) = mk (upR (upI S2 406 p (nI (eF S0 t N p).length)) 405 (36 * p) 0 ((upI S2 406 p (nI (eF S0 t N p).length)).2.1 397)) := by rw [upR_0]
      rw [e0]
      refine findEnds_in (S := upI S2 406 p (nI (eF S0 t N p).length)) (p := p) (l := eF S0 t N p) (by omega) g2.1 (by omega) (eF S0 t N p).length 0 (by omega) ?_
      refine N_iinc (pc := 66) dX10_findEnds_66 rfl (by decide) rfl ?_
      refine G_goto (pc := 69) (tgt := 2) dX10_findEnds_69 (by decide) ?_
      refine ih (p + 1) _ _ (by omega) (((hF.tr (dO g1)).tr (Fr.upI (Or.inr (Or.inr rfl)))).tr (Fr.upR (Or.inr (Or.inl rfl)))) (fun q hq => ?_) h
      by_cases hqp : q = p
      · subst hqp
        refine ⟨?_, fun i hi => ?_⟩
        · rw [upR_n (by omega), upI_s]
        · rw [upR_in (by omega), show 36 * q + i - 36 * q = i by omega, upI_n (by omega)]
          exact g2.2 i hi
      · have hE2 := hE q (by omega)
        have hl2 := eF_le hn hok (show q < N.length by omega)
        refine ⟨?_, fun i hi => ?_⟩
        · rw [upR_n (by omega), upI_n (by omega), g1.2.1 406 (by omega)]
          exact hE2.1
        · rw [upR_n (by omega), upI_n (by omega), g1.2.1 405 (by omega)]
          exact hE2.2 i hi
    have eb : (fun j => S.2.1 390 (16 * t + j)) = lnB S0 t := by funext j; exact hF.2.1 390 (by omega) _
    refine G_iload_n (pc := 2) dX10_findEnds_2 rfl rfl ?_
    refine G_aload_n (pc := 3) dX10_findEnds_3 rfl rfl ?_
    refine S_getI (pc := 4) dX10_findEnds_4 fX10_216 rfl (by first | rfl | assumption) rfl ?_
    rw [hNS.2.1]
    refine N_icmp_ge (pc := 7) (tgt := 72) dX10_findEnds_7 (by decide) (by omega) (fun c7 => absurd c7 (by omega)) (fun c7 => ?_)
    refine G_aload_n (pc := 10) dX10_findEnds_10 rfl rfl ?_
    refine G_aload_n (pc := 11) dX10_findEnds_11 rfl rfl ?_
    refine S_getR (pc := 12) (b := 404) dX10_findEnds_12 fX10_53 rfl rfl (by first | rfl | assumption) rfl rfl ?_
    refine G_iconst (pc := 15) (v := nI 3) dX10_findEnds_15 (by decide) ?_
    refine G_iload_n (pc := 16) dX10_findEnds_16 rfl rfl ?_
    refine N_imul (pc := 17) dX10_findEnds_17 ?_
    refine G_iload_n (pc := 18) dX10_findEnds_18 rfl rfl ?_
    refine S_callV (av := [_, _, _]) (pc := 19) (z := mX10_runRow) (ci := 9) dX10_findEnds_19 zX10_runRow lX10_findEnds_243 rfl (by first | rfl | assumption) rfl rfl (sX10_runRow (z := 192) (n := szN S0 t) ht ((hF.2.1 391 (by omega) t).trans hsz) hn rfl rfl (by omega) (by omega) (hNS.2.2 p (by omega)) hpg.1 (fun S2 q k1 k2 k3 => ⟨_, rfl, ?_⟩) (fun k1 S2 k2 k3 => ⟨_, rfl, ?_⟩))
    · rw [eb] at k1
      exact K S2 true k2 (by unfold eF; rw [k1]; exact k3)
    rw [eb] at k1
    exact K S2 false k2 (by unfold eF; rw [k1]; exact k3)
set_option maxRecDepth 100000 in
set_option maxHeartbeats 4000000 in
theorem sX10_findEnds {t : Nat} {N : List (List Nat)} (ht : t < 12) (hsz : S.2.1 391 t = nI (szN S t)) (hn : szN S t ≤ 16) (hN : NeIs S N) (hok : PsOk N) (h : ∀ S', Fr dX dA S S' → EdIs S' (eF S t N) N.length → Q none (mk S')) : CT sc mX10_findEnds [aR 389, aI (nI t)] (mk S) Q := by
  refine S_of (by decide) rfl ?_
  show G sc mX10_findEnds 0 [some (aR 389), some (aI (nI t)), none, none] [] (mk S) Q
  refine G_iconst (pc := 0) (v := nI 0) dX10_findEnds_0 (by decide) ?_
  refine G_istore_n (pc := 1) dX10_findEnds_1 rfl (by decide) rfl ?_
  exact findEnds_lp ht hsz hn hN hok N.length 0 S _ (by omega) Fr.rf (fun p hp => by omega) h
def eqF (f g : Nat → Int32) : Nat → Nat → Bool
  | 0, _ => true
  | d + 1, i => decide ((f i).toInt = (g i).toInt) && eqF f g d (i + 1)
theorem eqF_iff {f g : Nat → Int32} : ∀ d i, eqF f g d i = true ↔ ∀ j, i ≤ j → j < i + d → f j = g j
  | 0, i => by
    refine ⟨fun _ j h1 h2 => by omega, fun _ => rfl⟩
  | d + 1, i => by
    unfold eqF
    rw [Bool.and_eq_true, decide_eq_true_iff, eqF_iff d (i + 1)]
    constructor
    · rintro ⟨h1, h2⟩ j g1 g2
      by_cases e : j = i
      · subst e
        exact Int32.toInt_inj.mp h1
      · exact h2 j (by omega) (by omega)
    · intro h
      exact ⟨by rw [h i (Nat.le_refl _) (by omega)], fun j g1 g2 => h j (by omega) (by omega)⟩
theorem eqF_l {a b : List Int32} (h : a.length = b.length) : eqF (fun i => a.getD i 0) (fun i => b.getD i 0) a.length 0 = decide (a = b) := by
  by_cases e : a = b
  · rw [decide_eq_true e]
    exact (eqF_iff _ _).mpr (fun j _ _ => by rw [e])
  · rw [decide_eq_false e]
    rcases hh : eqF (fun i => a.getD i 0) (fun i => b.getD i 0) a.length 0 with _ | _
    · rfl
    · refine absurd (List.ext_getElem h (fun i h1 h2 => ?_)) e
      have := (eqF_iff _ _).mp hh i (by omega) (by omega)
      simp only [List.getD_eq_getElem?_getD, List.getElem?_eq_getElem h1, List.getElem?_eq_getElem h2, Option.getD_some] at this
      exact this
set_option maxRecDepth 100000 in
set_option maxHeartbeats 4000000 in
theorem areAlike_no {f : Nat → List Int32} {n p q i : Nat} (hE : EdIs S f n) (hp : p < n) (hn : n ≤ 64) (hl : (f p).length ≤ 36) (hi : i ≤ 36) (h : Q (some (aI (bI false))) (mk S)) : G sc mX10_areAlike 24 [some (aR 389), some (aI (nI p)), some (aI (nI q)), some (aI (bI false)), some (aI (nI i))] [] (mk S) Q := by
  refine G_iload (pc := 24) dX10_areAlike_24 rfl ?_
  refine G_aload_n (pc := 26) dX10_areAlike_26 rfl rfl ?_
  refine S_getR (pc := 27) (b := 406) dX10_areAlike_27 fX10_59 rfl rfl (by first | rfl | assumption) rfl rfl ?_
  refine G_iload_n (pc := 30) dX10_areAlike_30 rfl rfl ?_
  refine N_iald (pc := 31) dX10_areAlike_31 (by first | rfl | assumption) (by first | rfl | assumption) (by omega) ?_
  rw [(hE p hp).1]
  refine N_icmp_ge (pc := 32) (tgt := 78) dX10_areAlike_32 (by decide) (by omega) (fun c32 => ?_) (fun c32 => ?_)
  · skip
    refine G_iload_n (pc := 78) dX10_areAlike_78 rfl rfl ?_
    refine S_zret (pc := 79) dX10_areAlike_79 rfl (bI_nar _) ?_
    exact h
  · skip
    refine G_iload_n (pc := 35) dX10_areAlike_35 rfl rfl ?_
    refine B_if_eq (pc := 36) (tgt := 78) dX10_areAlike_36 (by decide) (fun c36 => ?_) (fun c36 => absurd c36 (by decide))
    refine G_iload_n (pc := 78) dX10_areAlike_78 rfl rfl ?_
    refine S_zret (pc := 79) dX10_areAlike_79 rfl (bI_nar _) ?_
    exact h
set_option maxRecDepth 100000 in
set_option maxHeartbeats 4000000 in
theorem areAlike_lp {f : Nat → List Int32} {n p q : Nat} (hE : EdIs S f n) (hp : p < n) (hq : q < n) (hn : n ≤ 64) (hl : (f p).length ≤ 36) (hlq : (f p).length = (f q).length) :
    ∀ (d i : Nat), i + d = (f p).length → Q (some (aI (bI (eqF (fun i => (f p).getD i 0) (fun i => (f q).getD i 0) d i)))) (mk S) →
      G sc mX10_areAlike 24 [some (aR 389), some (aI (nI p)), some (aI (nI q)), some (aI (bI true)), some (aI (nI i))] [] (mk S) Q := by
  intro d
  induction d with
  | zero =>
    intro i hi h
    refine G_iload (pc := 24) dX10_areAlike_24 rfl ?_
    refine G_aload_n (pc := 26) dX10_areAlike_26 rfl rfl ?_
    refine S_getR (pc := 27) (b := 406) dX10_areAlike_27 fX10_59 rfl rfl (by first | rfl | assumption) rfl rfl ?_
    refine G_iload_n (pc := 30) dX10_areAlike_30 rfl rfl ?_
    refine N_iald (pc := 31) dX10_areAlike_31 (by first | rfl | assumption) (by first | rfl | assumption) (by omega) ?_
    rw [(hE p hp).1]
    refine N_icmp_ge (pc := 32) (tgt := 78) dX10_areAlike_32 (by decide) (by omega) (fun c32 => ?_) (fun c32 => absurd c32 (by omega))
    refine G_iload_n (pc := 78) dX10_areAlike_78 rfl rfl ?_
    refine S_zret (pc := 79) dX10_areAlike_79 rfl (bI_nar _) ?_
    exact h
  | succ d ih =>
    intro i hi h
    have e0 : eqF (fun i => (f p).getD i 0) (fun i => (f q).getD i 0) (d + 1) i = (decide (((f p).getD i 0).toInt = ((f q).getD i 0).toInt) && eqF (fun i => (f p).getD i 0) (fun i => (f q).getD i 0) d (i + 1)) := rfl
    rw [e0] at h
    refine G_iload (pc := 24) dX10_areAlike_24 rfl ?_
    refine G_aload_n (pc := 26) dX10_areAlike_26 rfl rfl ?_
    refine S_getR (pc := 27) (b := 406) dX10_areAlike_27 fX10_59 rfl rfl (by first | rfl | assumption) rfl rfl ?_
    refine G_iload_n (pc := 30) dX10_areAlike_30 rfl rfl ?_
    refine N_iald (pc := 31) dX10_areAlike_31 (by first | rfl | assumption) (by first | rfl | assumption) (by omega) ?_
    rw [(hE p hp).1]
    refine N_icmp_ge (pc := 32) (tgt := 78) dX10_areAlike_32 (by decide) (by omega) (fun c32 => absurd c32 (by omega)) (fun c32 => ?_)
    refine G_iload_n (pc := 35) dX10_areAlike_35 rfl rfl ?_
    refine B_if_eq (pc := 36) (tgt := 78) dX10_areAlike_36 (by decide) (fun c36 => absurd c36 (by decide)) (fun c36 => ?_)
    refine G_aload_n (pc := 39) dX10_areAlike_39 rfl rfl ?_
    refine S_getR (pc := 40) (b := 405) dX10_areAlike_40 fX10_56 rfl rfl (by first | rfl | assumption) rfl rfl ?_
    refine G_bipush (pc := 43) (v := nI 36) dX10_areAlike_43 (by decide) ?_
    refine G_iload_n (pc := 45) dX10_areAlike_45 rfl rfl ?_
    refine N_imul (pc := 46) dX10_areAlike_46 ?_
    refine G_iload (pc := 47) dX10_areAlike_47 rfl ?_
    refine N_iadd (pc := 49) dX10_areAlike_49 ?_
    refine N_iald (pc := 50) dX10_areAlike_50 (by first | rfl | assumption) (by first | rfl | assumption) (by omega) ?_
    rw [(hE p hp).2 i (by omega)]
    refine G_aload_n (pc := 51) dX10_areAlike_51 rfl rfl ?_
    refine S_getR (pc := 52) (b := 405) dX10_areAlike_52 fX10_56 rfl rfl (by first | rfl | assumption) rfl rfl ?_
    refine G_bipush (pc := 55) (v := nI 36) dX10_areAlike_55 (by decide) ?_
    refine G_iload_n (pc := 57) dX10_areAlike_57 rfl rfl ?_
    refine N_imul (pc := 58) dX10_areAlike_58 ?_
    refine G_iload (pc := 59) dX10_areAlike_59 rfl ?_
    refine N_iadd (pc := 61) dX10_areAlike_61 ?_
    refine N_iald (pc := 62) dX10_areAlike_62 (by first | rfl | assumption) (by first | rfl | assumption) (by omega) ?_
    rw [(hE q hq).2 i (by omega)]
    refine T_icmp_ne (pc := 63) (tgt := 70) dX10_areAlike_63 (by decide) (fun c63 => ?_) (fun c63 => ?_)
    · skip
      rw [decide_eq_false c63] at h
      refine G_iconst (pc := 70) (v := nI 0) dX10_areAlike_70 (by decide) ?_
      refine G_istore_n (pc := 71) dX10_areAlike_71 rfl (by decide) rfl ?_
      refine N_iinc (pc := 72) dX10_areAlike_72 rfl (by decide) rfl ?_
      refine G_goto (pc := 75) (tgt := 24) dX10_areAlike_75 (by decide) ?_
      first
        | exact areAlike_no hE hp hn hl (by omega) h
        | exact ih (i + 1) (by omega) h
    · skip
      rw [decide_eq_true c63] at h
      refine G_iconst (pc := 66) (v := nI 1) dX10_areAlike_66 (by decide) ?_
      refine G_goto (pc := 67) (tgt := 71) dX10_areAlike_67 (by decide) ?_
      refine G_istore_n (pc := 71) dX10_areAlike_71 rfl (by decide) rfl ?_
      refine N_iinc (pc := 72) dX10_areAlike_72 rfl (by decide) rfl ?_
      refine G_goto (pc := 75) (tgt := 24) dX10_areAlike_75 (by decide) ?_
      first
        | exact areAlike_no hE hp hn hl (by omega) h
        | exact ih (i + 1) (by omega) h
set_option maxRecDepth 100000 in
set_option maxHeartbeats 4000000 in
theorem sX10_areAlike {f : Nat → List Int32} {n p q : Nat} (hE : EdIs S f n) (hp : p < n) (hq : q < n) (hn : n ≤ 64) (hl : ∀ x, x < n → (f x).length ≤ 36) (h : Q (some (aI (bI (decide (f p = f q))))) (mk S)) : CT sc mX10_areAlike [aR 389, aI (nI p), aI (nI q)] (mk S) Q := by
  refine S_of (by decide) rfl ?_
  show G sc mX10_areAlike 0 [some (aR 389), some (aI (nI p)), some (aI (nI q)), none, none] [] (mk S) Q
  have l1 := hl p hp
  have l2 := hl q hq
  refine G_aload_n (pc := 0) dX10_areAlike_0 rfl rfl ?_
  refine S_getR (pc := 1) (b := 406) dX10_areAlike_1 fX10_59 rfl rfl (by first | rfl | assumption) rfl rfl ?_
  refine G_iload_n (pc := 4) dX10_areAlike_4 rfl rfl ?_
  refine N_iald (pc := 5) dX10_areAlike_5 (by first | rfl | assumption) (by first | rfl | assumption) (by omega) ?_
  rw [(hE p hp).1]
  refine G_aload_n (pc := 6) dX10_areAlike_6 rfl rfl ?_
  refine S_getR (pc := 7) (b := 406) dX10_areAlike_7 fX10_59 rfl rfl (by first | rfl | assumption) rfl rfl ?_
  refine G_iload_n (pc := 10) dX10_areAlike_10 rfl rfl ?_
  refine N_iald (pc := 11) dX10_areAlike_11 (by first | rfl | assumption) (by first | rfl | assumption) (by omega) ?_
  rw [(hE q hq).1]
  refine N_icmp_ne (pc := 12) (tgt := 19) dX10_areAlike_12 (by decide) (by omega) (fun c12 => ?_) (fun c12 => ?_)
  · skip
    rw [decide_eq_false (fun e => c12 (by rw [e]))] at h
    refine G_iconst (pc := 19) (v := nI 0) dX10_areAlike_19 (by decide) ?_
    refine G_istore_n (pc := 20) dX10_areAlike_20 rfl (by decide) rfl ?_
    refine G_iconst (pc := 21) (v := nI 0) dX10_areAlike_21 (by decide) ?_
    refine G_istore (pc := 22) dX10_areAlike_22 (by decide) rfl ?_
    first
      | exact areAlike_no hE hp hn l1 (by omega) h
      | exact areAlike_lp hE hp hq hn l1 c12 (f p).length 0 (by omega) h
  · skip
    rw [← eqF_l c12] at h
    refine G_iconst (pc := 15) (v := nI 1) dX10_areAlike_15 (by decide) ?_
    refine G_goto (pc := 16) (tgt := 20) dX10_areAlike_16 (by decide) ?_
    refine G_istore_n (pc := 20) dX10_areAlike_20 rfl (by decide) rfl ?_
    refine G_iconst (pc := 21) (v := nI 0) dX10_areAlike_21 (by decide) ?_
    refine G_istore (pc := 22) dX10_areAlike_22 (by decide) rfl ?_
    first
      | exact areAlike_no hE hp hn l1 (by omega) h
      | exact areAlike_lp hE hp hq hn l1 c12 (f p).length 0 (by omega) h
end M31
