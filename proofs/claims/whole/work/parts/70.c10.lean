/-! the class: Fit.findCommonPlaces, Fit.addTyped -/
def comB (S : ST) (ts : List Nat) (p : Nat) : Bool := ts.all (fun t => (pl (lnB S t) (szN S t) p).isSome)
def cmF (S : ST) (ts : List Nat) : Nat → Nat → List Nat
  | 0, _ => []
  | d + 1, p => if comB S ts p = true then p :: cmF S ts d (p + 1) else cmF S ts d (p + 1)
def CmIs (S : ST) (C : List Nat) : Prop := S.1 6 5 = nI C.length ∧ ∀ i, i < C.length → S.2.1 8 i = nI (C.getD i 0)
theorem CmIs.k {S S' : ST} {C : List Nat} (h : CmIs S C) (h1 : S'.1 6 5 = S.1 6 5) (h2 : ∀ i, S'.2.1 8 i = S.2.1 8 i) : CmIs S' C := ⟨h1.trans h.1, fun i hi => (h2 i).trans (h.2 i hi)⟩
theorem CmIs.push {S : ST} {C : List Nat} {p : Nat} (h : CmIs S C) : CmIs (upX (upI S 8 C.length (nI p)) 6 5 (nI (C.length + 1))) (C ++ [p]) := by
  refine ⟨by rw [upX_s]; simp, fun i hi => ?_⟩
  show (upI S 8 C.length (nI p)).2.1 8 i = _
  by_cases e : i = C.length
  · subst e
    rw [upI_s]
    simp
  · have hi : i < C.length := by simp at hi; omega
    rw [upI_n (by omega), h.2 i hi, List.getD_eq_getElem?_getD, List.getD_eq_getElem?_getD, List.getElem?_append_left hi]
abbrev cmX (a j : Nat) : Prop := a = 6 ∧ j = 5
abbrev cmA (a : Nat) : Prop := a = 8
theorem ft_cm {S S' : ST} (h : Fr cmX cmA S S') : Fr ftX ftA S S' := h.mono (fun a j q => Or.inl ⟨q.1, by omega⟩) (fun a q => by constructor <;> omega)
theorem midI_s {x : Nat} : midI (some x) = nI x := rfl
theorem midI_0 {o : Option Nat} (h : ∀ x, o = some x → x < 2147483648) : (midI o).toInt < 0 ↔ o.isSome = false := by
  rcases o with _ | x
  · exact ⟨fun _ => rfl, fun _ => by decide⟩
  · rw [midI_s, nIt (h x rfl)]
    simp
theorem typG_ft {S : ST} {n q : Nat} : ∀ (r : List Nat) (k f v : Nat), typG S n q r k f = some v → ∀ t ∈ r, q ≤ esN S t
  | [], _, _, _, _, t, ht => by cases ht
  | a :: r, k, f, v, e, t, ht => by
    unfold typG at e
    split at e
    · rename_i hc
      split at e
      · cases e
      · rcases List.mem_cons.mp ht with z | z
        · subst z; omega
        · exact typG_ft r (k + 1) _ v e t z
    · cases e
theorem tyF_eq {S : ST} {ts : List Nat} {m : Nat} : tyF S ts m = typG S 0 m ts 0 0 := by
  unfold tyF
  split
  · rfl
  · rename_i h
    rcases e : typG S 0 m ts 0 0 with _ | v
    · rfl
    · exact absurd ((ftG_iff ts true).mpr ⟨rfl, typG_ft ts 0 0 v e⟩) h
theorem typG_div {S : ST} {n q : Nat} (hq : 1 ≤ q ∧ q ≤ 3) : ∀ (r : List Nat) (k f v : Nat), (∀ t ∈ r, ∀ j, j < esN S t → isBy (enB S t j)) → (r = [] → f / 16777216 = q) → typG S n q r k f = some v → v / 16777216 = q
  | [], k, f, v, _, h, e => by cases e; exact h rfl
  | t :: r, k, f, v, hby, _, e => by
    unfold typG at e
    split at e
    · rename_i hc
      split at e
      · cases e
      · refine typG_div hq r (k + 1) _ v (fun u hu => hby u (List.mem_cons_of_mem _ hu)) (fun _ => ?_) e
        have h1 := typN_ge (S := S) (t := t) (f := nib n k) q 0 (q * 16777216)
        have h2 := typN_lt (S := S) (t := t) (f := nib n k) q 0 (q * 16777216) (fun j _ g2 => by have := (isBy_n (hby t List.mem_cons_self (nib n k + j) (by omega))).2.2; omega)
        have h3 : 2 ^ (8 * q) ≤ 16777216 := by rcases (show q = 1 ∨ q = 2 ∨ q = 3 by omega) with rfl | rfl | rfl <;> decide
        omega
    · cases e
theorem onG_0 {m : Nat} {ts : List Nat} : onG m ts 0 0 = m * stpN ts := by
  rw [onG_pk]
  unfold stpN
  rw [pkd_mul]
  simp
theorem bkG_0 {S : ST} {m : Nat} {ts : List Nat} (h : ∀ t ∈ ts, m ≤ esN S t) : bkG S m ts 0 true 0 = fuN S ts - m * stpN ts ∧ m * stpN ts ≤ fuN S ts := by
  rw [bkG_pk ts 0 0 h]
  unfold stpN fuN
  rw [pkd_mul]
  have := pkd_sub (u := esN S) (v := fun _ => m) ts h
  rw [this.1]
  exact ⟨by simp, this.2⟩
theorem oI_s {p : Nat} : oI (some p) = nI p := rfl
theorem okB_typ {S : ST} {ts : List Nat} {p L m : Nat} (h : p / 16777216 = m) (hm : 1 ≤ m) : okB S ts (p, L) = decide (m < mnG S ts 12) := by
  unfold okB
  rw [if_neg (by show ¬ p < 16777216; omega)]
  show decide (p / 16777216 < _) = _
  rw [h]
section C10
variable {sc : SC} {S : ST} {Q : Option AV → HM → Prop}
set_option maxRecDepth 100000 in
set_option maxHeartbeats 4000000 in
theorem findC_in {S0 : ST} {p z : Nat} (hp : p < 40) (hz : z ≤ 4) (hc : S.1 6 1 = nI z) :
    ∀ (r : List Nat) (k : Nat) (b : Bool), k + r.length = z → (∀ i, i < r.length → S.2.2 (k + i) = some (289 + 7 * r.getD i 0)) → (∀ t ∈ r, t < 12 ∧ szN S0 t ≤ 16 ∧ PlIs S (289 + 7 * t) (lnB S0 t) (szN S0 t)) →
      (∀ o3 : Option AV, G sc mX0_findCommonPlaces 55 [some (aR 6), some (aI (nI p)), some (aI (bI (b && comB S0 r p))), o3] [] (mk S) Q) →
      G sc mX0_findCommonPlaces 17 [some (aR 6), some (aI (nI p)), some (aI (bI b)), some (aI (nI k))] [] (mk S) Q := by
  intro r
  induction r with
  | nil =>
    intro k b hk _ _ h
    have hk : k + 0 = z := hk
    have e : (b && comB S0 [] p) = b := by simp [comB]
    rw [e] at h
    refine G_iload_n (pc := 17) dX0_findCommonPlaces_17 rfl rfl ?_
    refine G_aload_n (pc := 18) dX0_findCommonPlaces_18 rfl rfl ?_
    refine S_getI (pc := 19) dX0_findCommonPlaces_19 fX0_17 rfl (by first | rfl | assumption) rfl ?_
    rw [hc]
    refine N_icmp_ge (pc := 22) (tgt := 55) dX0_findCommonPlaces_22 (by decide) (by omega) (fun c22 => ?_) (fun c22 => absurd c22 (by omega))
    exact h _
  | cons t r ih =>
    intro k b hk hs ht h
    have hk : k + (r.length + 1) = z := hk
    obtain ⟨t1, t2, hp2⟩ := ht t List.mem_cons_self
    obtain ⟨k0, k1, k2, k3, k4, k5, k6⟩ := ThK_t t t1
    have hsk : S.2.2 k = some (289 + 7 * t) := hs 0 (by simp)
    have e0 : comB S0 (t :: r) p = ((pl (lnB S0 t) (szN S0 t) p).isSome && comB S0 r p) := rfl
    rw [e0] at h
    have hmid := midI_0 (o := pl (lnB S0 t) (szN S0 t) p) (fun x hx => by have := pl_le hx; omega)
    have K : ∀ b', (b && ((pl (lnB S0 t) (szN S0 t) p).isSome && comB S0 r p)) = (b' && comB S0 r p) → G sc mX0_findCommonPlaces 17 [some (aR 6), some (aI (nI p)), some (aI (bI b')), some (aI (nI (k + 1)))] [] (mk S) Q := fun b' e => ih (k + 1) b' (by omega) (fun i hi => by rw [show k + 1 + i = k + (i + 1) by omega, hs (i + 1) (by simp; omega)]; simp) (fun x hx => ht x (List.mem_cons_of_mem _ hx)) (by rw [← e]; exact h)
    refine G_iload_n (pc := 17) dX0_findCommonPlaces_17 rfl rfl ?_
    refine G_aload_n (pc := 18) dX0_findCommonPlaces_18 rfl rfl ?_
    refine S_getI (pc := 19) dX0_findCommonPlaces_19 fX0_17 rfl (by first | rfl | assumption) rfl ?_
    rw [hc]
    refine N_icmp_ge (pc := 22) (tgt := 55) dX0_findCommonPlaces_22 (by decide) (by omega) (fun c22 => absurd c22 (by omega)) (fun c22 => ?_)
    refine G_iload_n (pc := 25) dX0_findCommonPlaces_25 rfl rfl ?_
    refine B_if_eq (pc := 26) (tgt := 55) dX0_findCommonPlaces_26 (by decide) (fun c26 => ?_) (fun c26 => ?_)
    · skip
      subst c26
      exact h _
    · skip
      subst c26
      refine G_aload_n (pc := 29) dX0_findCommonPlaces_29 rfl rfl ?_
      refine S_getR (pc := 30) (b := 7) dX0_findCommonPlaces_30 fX0_11 rfl rfl (by first | rfl | assumption) rfl rfl ?_
      refine G_iload_n (pc := 33) dX0_findCommonPlaces_33 rfl rfl ?_
      refine N_aald (pc := 34) (t := 3) (n := 4) (b := 289 + 7 * t) dX0_findCommonPlaces_34 (by first | rfl | assumption) (by first | rfl | assumption) (by decide) (by omega) hsk ?_
      refine S_getR (pc := 35) (b := 289 + 7 * t + 3) dX0_findCommonPlaces_35 fX0_102 rfl rfl (by first | rfl | assumption) rfl rfl ?_
      refine G_iload_n (pc := 38) dX0_findCommonPlaces_38 rfl rfl ?_
      refine N_iald (pc := 39) dX0_findCommonPlaces_39 (by first | rfl | assumption) (by first | rfl | assumption) (by omega) ?_
      rw [hp2 p hp]
      refine T_if_lt (pc := 40) (tgt := 47) dX0_findCommonPlaces_40 (by decide) (fun c40 => ?_) (fun c40 => ?_)
      · skip
        refine G_iconst (pc := 47) (v := nI 0) dX0_findCommonPlaces_47 (by decide) ?_
        refine G_istore_n (pc := 48) dX0_findCommonPlaces_48 rfl (by decide) rfl ?_
        refine N_iinc (pc := 49) dX0_findCommonPlaces_49 rfl (by decide) rfl ?_
        refine G_goto (pc := 52) (tgt := 17) dX0_findCommonPlaces_52 (by decide) ?_
        first
        | exact K true (by rw [show (pl (lnB S0 t) (szN S0 t) p).isSome = true from by rcases q : (pl (lnB S0 t) (szN S0 t) p).isSome with _ | _; exact absurd (hmid.mpr q) c40; rfl]; simp)
        | exact K false (by rw [hmid.mp c40]; simp)
      · skip
        refine G_iconst (pc := 43) (v := nI 1) dX0_findCommonPlaces_43 (by decide) ?_
        refine G_goto (pc := 44) (tgt := 48) dX0_findCommonPlaces_44 (by decide) ?_
        refine G_istore_n (pc := 48) dX0_findCommonPlaces_48 rfl (by decide) rfl ?_
        refine N_iinc (pc := 49) dX0_findCommonPlaces_49 rfl (by decide) rfl ?_
        refine G_goto (pc := 52) (tgt := 17) dX0_findCommonPlaces_52 (by decide) ?_
        first
        | exact K true (by rw [show (pl (lnB S0 t) (szN S0 t) p).isSome = true from by rcases q : (pl (lnB S0 t) (szN S0 t) p).isSome with _ | _; exact absurd (hmid.mpr q) c40; rfl]; simp)
        | exact K false (by rw [hmid.mp c40]; simp)
set_option maxRecDepth 100000 in
set_option maxHeartbeats 4000000 in
theorem findC_lp {S0 : ST} {ts : List Nat} (hts : TsOk S0 ts) :
    ∀ (d p : Nat) (S : ST) (C : List Nat) (o2 o3 : Option AV), p + d = 40 → FtH S0 S ts → CmIs S C → C.length ≤ p → (∀ S', Fr cmX cmA S S' → CmIs S' (C ++ cmF S0 ts d p) → Q none (mk S')) →
      G sc mX0_findCommonPlaces 7 [some (aR 6), some (aI (nI p)), o2, o3] [] (mk S) Q := by
  intro d
  induction d with
  | zero =>
    intro p S C o2 o3 hp hH hC hl h
    refine G_iload_n (pc := 7) dX0_findCommonPlaces_7 rfl rfl ?_
    refine G_bipush (pc := 8) (v := nI 40) dX0_findCommonPlaces_8 (by decide) ?_
    refine N_icmp_ge (pc := 10) (tgt := 85) dX0_findCommonPlaces_10 (by decide) (by omega) (fun c10 => ?_) (fun c10 => absurd c10 (by omega))
    refine S_vret (pc := 85) dX0_findCommonPlaces_85 rfl ?_
    exact h S Fr.rf (by rw [show C ++ cmF S0 ts 0 p = C by simp [cmF]]; exact hC)
  | succ d ih =>
    intro p S C o2 o3 hp hH hC hl h
    refine G_iload_n (pc := 7) dX0_findCommonPlaces_7 rfl rfl ?_
    refine G_bipush (pc := 8) (v := nI 40) dX0_findCommonPlaces_8 (by decide) ?_
    refine N_icmp_ge (pc := 10) (tgt := 85) dX0_findCommonPlaces_10 (by decide) (by omega) (fun c10 => absurd c10 (by omega)) (fun c10 => ?_)
    refine G_iconst (pc := 13) (v := nI 1) dX0_findCommonPlaces_13 (by decide) ?_
    refine G_istore_n (pc := 14) dX0_findCommonPlaces_14 rfl (by decide) rfl ?_
    refine G_iconst (pc := 15) (v := nI 0) dX0_findCommonPlaces_15 (by decide) ?_
    refine G_istore_n (pc := 16) dX0_findCommonPlaces_16 rfl (by decide) rfl ?_
    refine findC_in (S0 := S0) (by omega) hts.1 hH.1 ts 0 true (by omega) (fun i hi => by rw [Nat.zero_add]; exact hH.2.2.2.1 i hi) (fun t ht => ⟨(hts.2 t ht).1, (hts.2 t ht).2.2.1, (hH.2.2.2.2 t ht).2.1⟩) (fun o3 => ?_)
    have e0 : cmF S0 ts (d + 1) p = if comB S0 ts p = true then p :: cmF S0 ts d (p + 1) else cmF S0 ts d (p + 1) := rfl
    rw [e0] at h
    rw [Bool.true_and]
    refine G_iload_n (pc := 55) dX0_findCommonPlaces_55 rfl rfl ?_
    refine B_if_eq (pc := 56) (tgt := 79) dX0_findCommonPlaces_56 (by decide) (fun c56 => ?_) (fun c56 => ?_)
    · skip
      rw [if_neg (by simp [c56])] at h
      refine N_iinc (pc := 79) dX0_findCommonPlaces_79 rfl (by decide) rfl ?_
      refine G_goto (pc := 82) (tgt := 7) dX0_findCommonPlaces_82 (by decide) ?_
      first
      | exact ih (p + 1) S C _ _ (by omega) hH hC (by omega) h
      | (have g0 : Fr cmX cmA S (upX (upI S 8 C.length (nI p)) 6 5 (nI (C.length + 1))) := Fr.tr (Fr.upI rfl) (Fr.upX ⟨rfl, rfl⟩)
         exact ih (p + 1) _ (C ++ [p]) _ _ (by omega) (hH.fr (ft_cm g0)) hC.push (by simp; omega) (fun S' w1 w2 => h S' (g0.tr w1) (by rw [List.append_assoc] at w2; exact w2)))
    · skip
      rw [if_pos c56] at h
      refine G_aload_n (pc := 59) dX0_findCommonPlaces_59 rfl rfl ?_
      refine S_getR (pc := 60) (b := 8) dX0_findCommonPlaces_60 fX0_27 rfl rfl (by first | rfl | assumption) rfl rfl ?_
      refine G_aload_n (pc := 63) dX0_findCommonPlaces_63 rfl rfl ?_
      refine S_getI (pc := 64) dX0_findCommonPlaces_64 fX0_31 rfl (by first | rfl | assumption) rfl ?_
      rw [hC.1]
      refine G_iload_n (pc := 67) dX0_findCommonPlaces_67 rfl rfl ?_
      refine N_iast (pc := 68) dX0_findCommonPlaces_68 (by first | rfl | assumption) (by first | rfl | assumption) (by omega) ?_
      refine G_aload_n (pc := 69) dX0_findCommonPlaces_69 rfl rfl ?_
      refine G_dup (pc := 70) dX0_findCommonPlaces_70 rfl ?_
      refine S_getI (pc := 71) dX0_findCommonPlaces_71 fX0_31 rfl (by first | rfl | assumption) rfl ?_
      rw [show (upI S 8 C.length (nI p)).1 6 5 = nI C.length from hC.1]
      refine G_iconst (pc := 74) (v := nI 1) dX0_findCommonPlaces_74 (by decide) ?_
      refine N_iadd (pc := 75) dX0_findCommonPlaces_75 ?_
      refine S_putI (pc := 76) dX0_findCommonPlaces_76 fX0_31 (by decide) rfl (by first | rfl | assumption) rfl ?_
      refine N_iinc (pc := 79) dX0_findCommonPlaces_79 rfl (by decide) rfl ?_
      refine G_goto (pc := 82) (tgt := 7) dX0_findCommonPlaces_82 (by decide) ?_
      first
      | exact ih (p + 1) S C _ _ (by omega) hH hC (by omega) h
      | (have g0 : Fr cmX cmA S (upX (upI S 8 C.length (nI p)) 6 5 (nI (C.length + 1))) := Fr.tr (Fr.upI rfl) (Fr.upX ⟨rfl, rfl⟩)
         exact ih (p + 1) _ (C ++ [p]) _ _ (by omega) (hH.fr (ft_cm g0)) hC.push (by simp; omega) (fun S' w1 w2 => h S' (g0.tr w1) (by rw [List.append_assoc] at w2; exact w2)))
set_option maxRecDepth 100000 in
set_option maxHeartbeats 4000000 in
theorem sX0_findCommonPlaces {S0 : ST} {ts : List Nat} (hts : TsOk S0 ts) (hH : FtH S0 S ts) (h : ∀ S', Fr cmX cmA S S' → CmIs S' (cmF S0 ts 40 0) → Q none (mk S')) : CT sc mX0_findCommonPlaces [aR 6] (mk S) Q := by
  refine S_of (by decide) rfl ?_
  show G sc mX0_findCommonPlaces 0 [some (aR 6), none, none, none] [] (mk S) Q
  have g0 : Fr cmX cmA S (upX S 6 5 (nI 0)) := Fr.upX ⟨rfl, rfl⟩
  refine G_aload_n (pc := 0) dX0_findCommonPlaces_0 rfl rfl ?_
  refine G_iconst (pc := 1) (v := nI 0) dX0_findCommonPlaces_1 (by decide) ?_
  refine S_putI (pc := 2) dX0_findCommonPlaces_2 fX0_31 (by decide) rfl (by first | rfl | assumption) rfl ?_
  refine G_iconst (pc := 5) (v := nI 0) dX0_findCommonPlaces_5 (by decide) ?_
  refine G_istore_n (pc := 6) dX0_findCommonPlaces_6 rfl (by decide) rfl ?_
  exact findC_lp hts 40 0 _ [] _ _ (by omega) (hH.fr (ft_cm g0)) ⟨upX_s, fun i hi => by simp at hi⟩ (by simp) (fun S' w1 w2 => h S' (g0.tr w1) w2)
set_option maxRecDepth 100000 in
set_option maxHeartbeats 4000000 in
theorem addTyped_b {S0 S : ST} {ts : List Nat} {F B : List (Nat × Nat)} {m gn : Nat} {x : Int32} (hts : TsOk S0 ts) (hby : EnBy S0 ts) (h0 : ts ≠ []) (hm : 1 ≤ m ∧ m ≤ 3) (hH : FtH S0 S ts) (hP : FtP S0 S ts F B gn) (hBl : B.length ≤ 4799 + m) (hgn : gn ≤ 1599 + m)
    (h : ∀ S' gn', Fr acX acA S S' → FtP S0 S' ts F (tApp B (tyB S0 ts m) (onG m ts 0 0)) gn' → gn' ≤ 1600 + m → Q none (mk S')) : G sc mX0_addTyped 24 [some (aR 6), some (aI (nI m)), some (aI x), none] [] (mk S) Q := by
  have f3 := @lbL_len S0 ts B
  have hfu := fuN_lt hts
  have hml := mnG_le (S := S0) ts 12
  have hmn := mnG_iff (S := S0) (k := m) ts 12
  by_cases hlt : m < mnG S0 ts 12
  · have hall := (hmn.mp hlt).2
    have hbk := bkG_0 (S := S0) (m := m) (ts := ts) (fun t ht => Nat.le_of_lt (hall t ht))
    have hft : ftG S0 m ts true = true := (ftG_iff ts true).mpr ⟨rfl, fun t ht => Nat.le_of_lt (hall t ht)⟩
    have e0 : tyB S0 ts m = typG S0 (fuN S0 ts - m * stpN ts) m ts 0 0 := by unfold tyB; rw [if_pos hft, hbk.1]
    rw [e0, onG_0] at h
    rcases hty : typG S0 (fuN S0 ts - m * stpN ts) m ts 0 0 with _ | p
    · rw [hty] at h
      refine G_iload_n (pc := 24) dX0_addTyped_24 rfl rfl ?_
      refine G_aload_n (pc := 25) dX0_addTyped_25 rfl rfl ?_
      refine S_callV (av := []) (pc := 26) (z := mX0_leastSize) (ci := 0) dX0_addTyped_26 zX0_leastSize lX0_addTyped_118 rfl (by first | rfl | assumption) rfl rfl (sX0_leastSize hts hH ⟨_, rfl, ?_⟩)
      refine N_icmp_ge (pc := 29) (tgt := 66) dX0_addTyped_29 (by decide) (by omega) (fun c29 => absurd c29 (by omega)) (fun c29 => ?_)
      refine G_aload_n (pc := 32) dX0_addTyped_32 rfl rfl ?_
      refine S_getI (pc := 33) dX0_addTyped_33 fX0_21 rfl (by first | rfl | assumption) rfl ?_
      rw [hH.2.1]
      refine G_iload_n (pc := 36) dX0_addTyped_36 rfl rfl ?_
      refine G_aload_n (pc := 37) dX0_addTyped_37 rfl rfl ?_
      refine S_getI (pc := 38) dX0_addTyped_38 fX0_24 rfl (by first | rfl | assumption) rfl ?_
      rw [hH.2.2.1]
      refine N_imul (pc := 41) dX0_addTyped_41 ?_
      refine N_isub (pc := 42) dX0_addTyped_42 hbk.2 ?_
      refine G_istore_n (pc := 43) dX0_addTyped_43 rfl (by decide) rfl ?_
      refine G_aload_n (pc := 44) dX0_addTyped_44 rfl rfl ?_
      refine G_iload_n (pc := 45) dX0_addTyped_45 rfl rfl ?_
      refine G_iload_n (pc := 46) dX0_addTyped_46 rfl rfl ?_
      refine S_callV (av := [_, _]) (pc := 47) (z := mX0_typedIn) (ci := 0) dX0_addTyped_47 zX0_typedIn lX0_addTyped_115 rfl (by first | rfl | assumption) rfl rfl (sX0_typedIn (by omega) hm hts hby h0 hH ⟨_, rfl, ?_⟩)
      rw [hty]
      refine G_istore_n (pc := 50) dX0_addTyped_50 rfl (by decide) rfl ?_
      refine G_iload_n (pc := 51) dX0_addTyped_51 rfl rfl ?_
      refine G_bipush (pc := 52) (v := (-4)) dX0_addTyped_52 (by decide) ?_
      refine T_icmp_eq (pc := 54) (tgt := 66) dX0_addTyped_54 (by decide) (fun c54 => ?_) (fun c54 => absurd c54 (by decide))
      refine S_vret (pc := 66) dX0_addTyped_66 rfl ?_
      exact h S gn Fr.rf hP (by omega)
    · rw [hty] at h
      have hdiv := typG_div hm ts 0 0 p hby (fun q => absurd q h0) hty
      have hpl := typG_lt (by omega) ts 0 0 p hby (by omega) hty
      refine G_iload_n (pc := 24) dX0_addTyped_24 rfl rfl ?_
      refine G_aload_n (pc := 25) dX0_addTyped_25 rfl rfl ?_
      refine S_callV (av := []) (pc := 26) (z := mX0_leastSize) (ci := 0) dX0_addTyped_26 zX0_leastSize lX0_addTyped_118 rfl (by first | rfl | assumption) rfl rfl (sX0_leastSize hts hH ⟨_, rfl, ?_⟩)
      refine N_icmp_ge (pc := 29) (tgt := 66) dX0_addTyped_29 (by decide) (by omega) (fun c29 => absurd c29 (by omega)) (fun c29 => ?_)
      refine G_aload_n (pc := 32) dX0_addTyped_32 rfl rfl ?_
      refine S_getI (pc := 33) dX0_addTyped_33 fX0_21 rfl (by first | rfl | assumption) rfl ?_
      rw [hH.2.1]
      refine G_iload_n (pc := 36) dX0_addTyped_36 rfl rfl ?_
      refine G_aload_n (pc := 37) dX0_addTyped_37 rfl rfl ?_
      refine S_getI (pc := 38) dX0_addTyped_38 fX0_24 rfl (by first | rfl | assumption) rfl ?_
      rw [hH.2.2.1]
      refine N_imul (pc := 41) dX0_addTyped_41 ?_
      refine N_isub (pc := 42) dX0_addTyped_42 hbk.2 ?_
      refine G_istore_n (pc := 43) dX0_addTyped_43 rfl (by decide) rfl ?_
      refine G_aload_n (pc := 44) dX0_addTyped_44 rfl rfl ?_
      refine G_iload_n (pc := 45) dX0_addTyped_45 rfl rfl ?_
      refine G_iload_n (pc := 46) dX0_addTyped_46 rfl rfl ?_
      refine S_callV (av := [_, _]) (pc := 47) (z := mX0_typedIn) (ci := 0) dX0_addTyped_47 zX0_typedIn lX0_addTyped_115 rfl (by first | rfl | assumption) rfl rfl (sX0_typedIn (by omega) hm hts hby h0 hH ⟨_, rfl, ?_⟩)
      rw [hty, oI_s]
      refine G_istore_n (pc := 50) dX0_addTyped_50 rfl (by decide) rfl ?_
      refine G_iload_n (pc := 51) dX0_addTyped_51 rfl rfl ?_
      refine G_bipush (pc := 52) (v := (-4)) dX0_addTyped_52 (by decide) ?_
      refine T_icmp_eq (pc := 54) (tgt := 66) dX0_addTyped_54 (by decide) (fun c54 => absurd c54 (by rw [nIt (by omega)]; show ¬ (p : Int) = -4; omega)) (fun c54 => ?_)
      refine G_aload_n (pc := 57) dX0_addTyped_57 rfl rfl ?_
      refine S_getR (pc := 58) (b := 12) dX0_addTyped_58 fX0_50 rfl rfl (by first | rfl | assumption) rfl rfl ?_
      refine G_iload_n (pc := 61) dX0_addTyped_61 rfl rfl ?_
      refine G_iload_n (pc := 62) dX0_addTyped_62 rfl rfl ?_
      refine S_callV (av := [_, _]) (pc := 63) (z := mX2_add) (ci := 1) dX0_addTyped_63 zX2_add lX0_addTyped_112 rfl (by first | rfl | assumption) rfl rfl (sX2_add (GM := 1599 + m) hP.2.2 (by omega) (by omega) (Or.inr (by omega)) (by omega) (Or.inl hgn) (fun S2 g2 x1 x2 x3 x4 => ⟨_, rfl, ?_⟩))
      refine S_vret (pc := 66) dX0_addTyped_66 rfl ?_
      refine h S2 g2 (ac_la x1) ⟨hP.1.k (x1.1 6 9 (by omega)) (x1.2.1 9 (by omega)) (x1.2.1 10 (by omega)), hP.2.1.k (x1.1 6 12 (by omega)) (x1.2.1 20 (by omega)), ?_⟩ (by omega)
      show LaIs S2 (lbL S0 ts (B ++ [(p, m * stpN ts)])) g2
      rw [lbL_y (by rw [okB_typ hdiv hm.1]; exact decide_eq_true hlt)]
      exact x2
  · have e1 : lbL S0 ts (tApp B (tyB S0 ts m) (onG m ts 0 0)) = lbL S0 ts B := by
      rcases hty : tyB S0 ts m with _ | p
      · rfl
      · show lbL S0 ts (B ++ [(p, onG m ts 0 0)]) = _
        refine lbL_n ?_
        have hdiv : p / 16777216 = m := by
          unfold tyB at hty
          split at hty
          · exact typG_div hm ts 0 0 p hby (fun q => absurd q h0) hty
          · cases hty
        rw [okB_typ hdiv hm.1]
        exact decide_eq_false hlt
    refine G_iload_n (pc := 24) dX0_addTyped_24 rfl rfl ?_
    refine G_aload_n (pc := 25) dX0_addTyped_25 rfl rfl ?_
    refine S_callV (av := []) (pc := 26) (z := mX0_leastSize) (ci := 0) dX0_addTyped_26 zX0_leastSize lX0_addTyped_118 rfl (by first | rfl | assumption) rfl rfl (sX0_leastSize hts hH ⟨_, rfl, ?_⟩)
    refine N_icmp_ge (pc := 29) (tgt := 66) dX0_addTyped_29 (by decide) (by omega) (fun c29 => ?_) (fun c29 => absurd c29 (by omega))
    refine S_vret (pc := 66) dX0_addTyped_66 rfl ?_
    exact h S gn Fr.rf ⟨hP.1, hP.2.1, by rw [e1]; exact hP.2.2⟩ (by omega)
set_option maxRecDepth 100000 in
set_option maxHeartbeats 4000000 in
theorem sX0_addTyped {S0 : ST} {ts : List Nat} {F B : List (Nat × Nat)} {m gn : Nat} (hts : TsOk S0 ts) (hby : EnBy S0 ts) (h0 : ts ≠ []) (hm : 1 ≤ m ∧ m ≤ 3) (hH : FtH S0 S ts) (hP : FtP S0 S ts F B gn) (hFl : F.length ≤ 4799 + m) (hBl : B.length ≤ 4799 + m) (hgn : gn ≤ 1599 + m)
    (h : ∀ S' gn', Fr acX acA S S' → FtP S0 S' ts (tApp F (tyF S0 ts m) (onG m ts 0 0)) (tApp B (tyB S0 ts m) (onG m ts 0 0)) gn' → gn' ≤ 1600 + m → Q none (mk S')) : CT sc mX0_addTyped [aR 6, aI (nI m)] (mk S) Q := by
  refine S_of (by decide) rfl ?_
  show G sc mX0_addTyped 0 [some (aR 6), some (aI (nI m)), none, none] [] (mk S) Q
  have f1 := @ffL_len S0 ts F
  have f2 := @whL_len S0 ts F
  have hfu := fuN_lt hts
  rw [tyF_eq, onG_0] at h
  have K : ∀ S1 F1 (x : Int32), Fr afX afA S S1 → FsIs S1 (ffL S0 ts F1) → WhIs S1 (whL S0 ts F1) → tApp F (typG S0 0 m ts 0 0) (m * stpN ts) = F1 → G sc mX0_addTyped 24 [some (aR 6), some (aI (nI m)), some (aI x), none] [] (mk S1) Q := by
    intro S1 F1 x w1 w2 w3 e
    subst e
    refine addTyped_b hts hby h0 hm (hH.fr (ft_af w1)) ⟨w2, w3, hP.2.2.af w1⟩ hBl hgn (fun S' gn' q1 q2 q3 => h S' gn' ((ac_af w1).tr q1) (by rw [onG_0] at q2; exact q2) q3)
  rcases hty : typG S0 0 m ts 0 0 with _ | p
  · rw [hty] at K
    refine G_aload_n (pc := 0) dX0_addTyped_0 rfl rfl ?_
    refine G_iconst (pc := 1) (v := nI 0) dX0_addTyped_1 (by decide) ?_
    refine G_iload_n (pc := 2) dX0_addTyped_2 rfl rfl ?_
    refine S_callV (av := [_, _]) (pc := 3) (z := mX0_typedIn) (ci := 0) dX0_addTyped_3 zX0_typedIn lX0_addTyped_115 rfl (by first | rfl | assumption) rfl rfl (sX0_typedIn (by omega) hm hts hby h0 hH ⟨_, rfl, ?_⟩)
    rw [hty]
    refine G_istore_n (pc := 6) dX0_addTyped_6 rfl (by decide) rfl ?_
    refine G_iload_n (pc := 7) dX0_addTyped_7 rfl rfl ?_
    refine G_bipush (pc := 8) (v := (-4)) dX0_addTyped_8 (by decide) ?_
    refine T_icmp_eq (pc := 10) (tgt := 24) dX0_addTyped_10 (by decide) (fun c10 => ?_) (fun c10 => absurd c10 (by decide))
    exact K S F _ Fr.rf hP.1 hP.2.1 rfl
  · rw [hty] at K
    have hpl := typG_lt (by omega) ts 0 0 p hby (by omega) hty
    have hle := (bkG_0 (S := S0) (m := m) (ts := ts) (typG_ft ts 0 0 p hty)).2
    refine G_aload_n (pc := 0) dX0_addTyped_0 rfl rfl ?_
    refine G_iconst (pc := 1) (v := nI 0) dX0_addTyped_1 (by decide) ?_
    refine G_iload_n (pc := 2) dX0_addTyped_2 rfl rfl ?_
    refine S_callV (av := [_, _]) (pc := 3) (z := mX0_typedIn) (ci := 0) dX0_addTyped_3 zX0_typedIn lX0_addTyped_115 rfl (by first | rfl | assumption) rfl rfl (sX0_typedIn (by omega) hm hts hby h0 hH ⟨_, rfl, ?_⟩)
    rw [hty, oI_s]
    refine G_istore_n (pc := 6) dX0_addTyped_6 rfl (by decide) rfl ?_
    refine G_iload_n (pc := 7) dX0_addTyped_7 rfl rfl ?_
    refine G_bipush (pc := 8) (v := (-4)) dX0_addTyped_8 (by decide) ?_
    refine T_icmp_eq (pc := 10) (tgt := 24) dX0_addTyped_10 (by decide) (fun c10 => absurd c10 (by rw [nIt (by omega)]; show ¬ (p : Int) = -4; omega)) (fun c10 => ?_)
    refine G_aload_n (pc := 13) dX0_addTyped_13 rfl rfl ?_
    refine G_iload_n (pc := 14) dX0_addTyped_14 rfl rfl ?_
    refine G_iload_n (pc := 15) dX0_addTyped_15 rfl rfl ?_
    refine G_aload_n (pc := 16) dX0_addTyped_16 rfl rfl ?_
    refine S_getI (pc := 17) dX0_addTyped_17 fX0_24 rfl (by first | rfl | assumption) rfl ?_
    rw [hH.2.2.1]
    refine N_imul (pc := 20) dX0_addTyped_20 ?_
    refine S_callV (av := [_, _]) (pc := 21) (z := mX0_addFirst) (ci := 0) dX0_addTyped_21 zX0_addFirst lX0_addTyped_109 rfl (by first | rfl | assumption) rfl rfl (sX0_addFirst hH.2.1 (by omega) hP.1 hP.2.1 (by omega) (by omega) (fun c S1 x1 x2 x3 => ⟨_, rfl, ?_⟩) (fun c S1 x1 x2 x3 => ⟨_, rfl, ?_⟩))
    · exact K S1 (F ++ [(p, m * stpN ts)]) _ x1 (by rw [ffL_y c]; exact x2) (by rw [whL_y c]; exact x3) rfl
    exact K S1 (F ++ [(p, m * stpN ts)]) _ x1 (by rw [ffL_n c]; exact x2) (by rw [whL_n c]; exact x3) rfl
end C10
