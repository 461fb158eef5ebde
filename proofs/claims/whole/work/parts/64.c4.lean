/-! the class: which spans of a line begin or close its end -/
theorem nI_or (a b : Nat) : nI a ||| nI b = nI (a ||| b) := by
  apply Int32.toBitVec_inj.mp
  apply BitVec.eq_of_toNat_eq
  show (nI a).toBitVec.toNat ||| (nI b).toBitVec.toNat = (nI (a ||| b)).toBitVec.toNat
  simp only [nI, Int32.toBitVec_ofNat, BitVec.toNat_ofNat]
  exact Nat.or_mod_two_pow.symm
/-- bits of the row of spans -/
def SpB (S : ST) (a : Nat) (P : Nat → Nat → Nat → Prop) : Prop := ∀ x y, x ≤ 16 → y ≤ 16 → ∃ v, v < 64 ∧ S.2.1 (a + 6) (x * 17 + y) = nI v ∧ ∀ i, i < 6 → (v.testBit i = true ↔ P i x y)
theorem SpB.cg {S : ST} {a : Nat} {P R : Nat → Nat → Nat → Prop} (h : SpB S a P) (e : ∀ i x y, i < 6 → x ≤ 16 → y ≤ 16 → (P i x y ↔ R i x y)) : SpB S a R := fun x y hx hy => by
  obtain ⟨v, h1, h2, h3⟩ := h x y hx hy
  exact ⟨v, h1, h2, fun i hi => (h3 i hi).trans (e i x y hi hx hy)⟩
theorem or_lt64 {v i : Nat} (h : v < 64) (hi : i < 6) : v ||| 2 ^ i < 64 := Nat.or_lt_two_pow (n := 6) h (Nat.pow_lt_pow_right (by decide) hi)
theorem SpB.set {S : ST} {a i0 x0 y0 v : Nat} {P : Nat → Nat → Nat → Prop} (h : SpB S a P) (hi : i0 < 6) (hx : x0 ≤ 16) (hy : y0 ≤ 16) (hv : v < 64) (hS : S.2.1 (a + 6) (x0 * 17 + y0) = nI v) : SpB (upI S (a + 6) (x0 * 17 + y0) (nI (v ||| 2 ^ i0))) a (fun i x y => P i x y ∨ (i = i0 ∧ x = x0 ∧ y = y0)) := by
  intro x y gx gy
  obtain ⟨w, h1, h2, h3⟩ := h x y gx gy
  by_cases e : x = x0 ∧ y = y0
  · obtain ⟨rfl, rfl⟩ := e
    have hw : v = w := by rw [h2] at hS; exact ((nI_eq (by omega) (by omega)).mp hS).symm
    subst hw
    refine ⟨v ||| 2 ^ i0, or_lt64 hv hi, upI_s, fun i q => ?_⟩
    rw [Nat.testBit_or, Bool.or_eq_true, h3 i q, Nat.testBit_two_pow]
    simp only [decide_eq_true_eq]
    constructor
    · rintro (z | z)
      · exact Or.inl z
      · exact Or.inr ⟨z.symm, by trivial, by trivial⟩
    · rintro (z | z)
      · exact Or.inl z
      · exact Or.inr z.1.symm
  · refine ⟨w, h1, by rw [upI_n (by omega)]; exact h2, fun i q => (h3 i q).trans ?_⟩
    constructor
    · exact Or.inl
    · rintro (z | z)
      · exact z
      · exact absurd ⟨z.2.1, z.2.2⟩ e
/-- the turned bytes between x and y begin the end; close it -/
def begP (b : Nat → Int32) (n : Nat) (e : Nat → Int32) (m tn x y : Nat) : Prop := x < y ∧ y ≤ n ∧ y - x ≤ m ∧ ∀ j, j < y - x → turnI tn (b (x + j)) = e j
def cloP (b : Nat → Int32) (n : Nat) (e : Nat → Int32) (m tn x y : Nat) : Prop := x < y ∧ y ≤ n ∧ y - x ≤ m ∧ ∀ j, 1 ≤ j → j ≤ y - x → turnI tn (b (y - j)) = e (m - j)
theorem shl1 : ∀ t : Nat, t < 3 → nI 1 <<< (nI t &&& 31) = nI (2 ^ t) := by decide
theorem shl8 : ∀ t : Nat, t < 3 → nI 8 <<< (nI t &&& 31) = nI (2 ^ (3 + t)) := by decide
theorem by8n {v : Nat} (h : v < 64) : (nI v).toInt8.toInt32 = nI v := by8 (by rw [nIt (by omega)]; omega)
section C4
variable {sc : SC} {S : ST} {Q : Option AV → HM → Prop}
set_option maxRecDepth 100000 in
set_option maxHeartbeats 4000000 in
theorem markB_lp {a n m tn fr : Nat} {b e : Nat → Int32} {P : Nat → Nat → Nat → Prop} (ha : ThK a) (hn : n ≤ 16) (hm : m ≤ 12) (htn : tn < 3) (hfr : fr ≤ n) :
    ∀ (f k : Nat) (S : ST), m - k ≤ f → k ≤ m → fr + k ≤ n → LnIs S a b n → EnIs S a e m → (∀ j, j < k → turnI tn (b (fr + j)) = e j) → SpB S a (fun i x y => P i x y ∨ (i = tn ∧ x = fr ∧ fr < y ∧ y ≤ fr + k)) →
      (∀ S', Fr noX (onA' (a + 6)) S S' → SpB S' a (fun i x y => P i x y ∨ (i = tn ∧ x = fr ∧ begP b n e m tn fr y)) → Q none (mk S')) →
      G sc mX8_markBeginnings 2 [some (aR a), some (aI (nI tn)), some (aI (nI fr)), some (aI (nI k))] [] (mk S) Q := by
  obtain ⟨k0, k1, k2, k3, k4, k5, k6⟩ := ha
  intro f
  induction f with
  | zero =>
    intro k S h1 h2 h2' hl he hj hP h
    refine G_iload_n (pc := 2) dX8_markBeginnings_2 rfl rfl ?_
    refine G_aload_n (pc := 3) dX8_markBeginnings_3 rfl rfl ?_
    refine S_getR (pc := 4) (b := a + 4) dX8_markBeginnings_4 fX8_24 rfl rfl (by first | rfl | assumption) rfl rfl ?_
    refine S_getI (pc := 7) dX8_markBeginnings_7 fX8_35 rfl (by first | rfl | assumption) rfl ?_
    rw [he.1]
    refine N_icmp_ge (pc := 10) (tgt := 82) dX8_markBeginnings_10 (by decide) (by omega) (fun c10 => ?_) (fun c10 => absurd c10 (by omega))
    refine S_vret (pc := 82) dX8_markBeginnings_82 rfl ?_
    refine h S Fr.rf (hP.cg (fun i x y _ _ _ => or_congr Iff.rfl (and_congr Iff.rfl (and_congr Iff.rfl ⟨fun q => ⟨by omega, by omega, by omega, fun j g => hj j (by omega)⟩, fun q => ⟨q.1, by have := q.2.2.1; have := q.1; omega⟩⟩))))
  | succ f ih =>
    intro k S h1 h2 h2' hl he hj hP h
    refine G_iload_n (pc := 2) dX8_markBeginnings_2 rfl rfl ?_
    refine G_aload_n (pc := 3) dX8_markBeginnings_3 rfl rfl ?_
    refine S_getR (pc := 4) (b := a + 4) dX8_markBeginnings_4 fX8_24 rfl rfl (by first | rfl | assumption) rfl rfl ?_
    refine S_getI (pc := 7) dX8_markBeginnings_7 fX8_35 rfl (by first | rfl | assumption) rfl ?_
    rw [he.1]
    refine N_icmp_ge (pc := 10) (tgt := 82) dX8_markBeginnings_10 (by decide) (by omega) (fun c10 => ?_) (fun c10 => ?_)
    · skip
      refine S_vret (pc := 82) dX8_markBeginnings_82 rfl ?_
      refine h S Fr.rf (hP.cg (fun i x y _ _ _ => or_congr Iff.rfl (and_congr Iff.rfl (and_congr Iff.rfl ⟨fun q => ⟨by omega, by omega, by omega, fun j g => hj j (by omega)⟩, fun q => ⟨q.1, by have := q.2.2.1; have := q.2.1; have := q.1; omega⟩⟩))))
    · skip
      refine G_iload_n (pc := 13) dX8_markBeginnings_13 rfl rfl ?_
      refine G_iload_n (pc := 14) dX8_markBeginnings_14 rfl rfl ?_
      refine N_iadd (pc := 15) dX8_markBeginnings_15 ?_
      refine G_aload_n (pc := 16) dX8_markBeginnings_16 rfl rfl ?_
      refine S_getR (pc := 17) (b := a + 1) dX8_markBeginnings_17 fX8_14 rfl rfl (by first | rfl | assumption) rfl rfl ?_
      refine S_getI (pc := 20) dX8_markBeginnings_20 fX8_35 rfl (by first | rfl | assumption) rfl ?_
      rw [hl.1]
      refine N_icmp_ge (pc := 23) (tgt := 82) dX8_markBeginnings_23 (by decide) (by omega) (fun c23 => ?_) (fun c23 => ?_)
      · skip
        refine S_vret (pc := 82) dX8_markBeginnings_82 rfl ?_
        refine h S Fr.rf (hP.cg (fun i x y _ _ _ => or_congr Iff.rfl (and_congr Iff.rfl (and_congr Iff.rfl ⟨fun q => ⟨by omega, by omega, by omega, fun j g => hj j (by omega)⟩, fun q => ⟨q.1, by have := q.2.2.1; have := q.2.1; have := q.1; omega⟩⟩))))
      · skip
        refine G_iload_n (pc := 26) dX8_markBeginnings_26 rfl rfl ?_
        refine G_aload_n (pc := 27) dX8_markBeginnings_27 rfl rfl ?_
        refine S_getR (pc := 28) (b := a + 1) dX8_markBeginnings_28 fX8_14 rfl rfl (by first | rfl | assumption) rfl rfl ?_
        refine S_getR (pc := 31) (b := a + 1 + 1) dX8_markBeginnings_31 fX8_44 rfl rfl (by first | rfl | assumption) rfl rfl ?_
        refine G_iload_n (pc := 34) dX8_markBeginnings_34 rfl rfl ?_
        refine G_iload_n (pc := 35) dX8_markBeginnings_35 rfl rfl ?_
        refine N_iadd (pc := 36) dX8_markBeginnings_36 ?_
        refine N_bald (pc := 37) dX8_markBeginnings_37 (by first | rfl | assumption) (by first | rfl | assumption) (by omega) ?_
        rw [hl.2 (fr + k) (by omega)]
        refine S_callS (av := [_, _]) (pc := 38) (z := mX1_turned) dX8_markBeginnings_38 zX1_turned lX8_markBeginnings_55 rfl (sX1_turned htn ⟨_, rfl, ?_⟩)
        refine G_aload_n (pc := 41) dX8_markBeginnings_41 rfl rfl ?_
        refine S_getR (pc := 42) (b := a + 4) dX8_markBeginnings_42 fX8_24 rfl rfl (by first | rfl | assumption) rfl rfl ?_
        refine S_getR (pc := 45) (b := a + 4 + 1) dX8_markBeginnings_45 fX8_44 rfl rfl (by first | rfl | assumption) rfl rfl ?_
        refine G_iload_n (pc := 48) dX8_markBeginnings_48 rfl rfl ?_
        refine N_bald (pc := 49) dX8_markBeginnings_49 (by first | rfl | assumption) (by first | rfl | assumption) (by omega) ?_
        rw [he.2 k (by omega)]
        refine T_icmp_eq (pc := 50) (tgt := 54) dX8_markBeginnings_50 (by decide) (fun c50 => ?_) (fun c50 => ?_)
        · skip
          have c50 := Int32.toInt_inj.mp c50
          obtain ⟨v, v1, v2, v3⟩ := hP fr (fr + k + 1) (by omega) (by omega)
          have e0 : fr * 17 + fr + k + 1 = fr * 17 + (fr + k + 1) := by omega
          refine G_aload_n (pc := 54) dX8_markBeginnings_54 rfl rfl ?_
          refine S_getR (pc := 55) (b := a + 6) dX8_markBeginnings_55 fX8_31 rfl rfl (by first | rfl | assumption) rfl rfl ?_
          refine G_iload_n (pc := 58) dX8_markBeginnings_58 rfl rfl ?_
          refine G_bipush (pc := 59) (v := nI 17) dX8_markBeginnings_59 (by decide) ?_
          refine N_imul (pc := 61) dX8_markBeginnings_61 ?_
          refine G_iload_n (pc := 62) dX8_markBeginnings_62 rfl rfl ?_
          refine N_iadd (pc := 63) dX8_markBeginnings_63 ?_
          refine G_iload_n (pc := 64) dX8_markBeginnings_64 rfl rfl ?_
          refine N_iadd (pc := 65) dX8_markBeginnings_65 ?_
          refine G_iconst (pc := 66) (v := nI 1) dX8_markBeginnings_66 (by decide) ?_
          refine N_iadd (pc := 67) dX8_markBeginnings_67 ?_
          rw [e0]
          refine G_dup2 (pc := 68) dX8_markBeginnings_68 rfl rfl ?_
          refine N_bald (pc := 69) dX8_markBeginnings_69 (by first | rfl | assumption) (by first | rfl | assumption) (by omega) ?_
          rw [v2]
          refine G_iconst (pc := 70) (v := nI 1) dX8_markBeginnings_70 (by decide) ?_
          refine G_iload_n (pc := 71) dX8_markBeginnings_71 rfl rfl ?_
          refine G_ishl (pc := 72) dX8_markBeginnings_72 ?_
          rw [shl1 tn htn]
          refine G_ior (pc := 73) dX8_markBeginnings_73 ?_
          rw [nI_or]
          refine G_i2b (pc := 74) dX8_markBeginnings_74 ?_
          rw [by8n (or_lt64 v1 (by omega))]
          refine N_bast (pc := 75) dX8_markBeginnings_75 (by first | rfl | assumption) (by first | rfl | assumption) (by omega) ?_
          rw [by8n (or_lt64 v1 (by omega))]
          refine N_iinc (pc := 76) dX8_markBeginnings_76 rfl (by decide) rfl ?_
          refine G_goto (pc := 79) (tgt := 2) dX8_markBeginnings_79 (by decide) ?_
          have g0 : Fr noX (onA' (a + 6)) S (upI S (a + 6) (fr * 17 + (fr + k + 1)) (nI (v ||| 2 ^ tn))) := Fr.upI rfl
          refine ih (k + 1) _ (by omega) (by omega) (by omega) (hl.fr g0 (by simp) (by show ¬ _ = _; omega)) (he.fr g0 (by simp) (by show ¬ _ = _; omega)) (fun j g => ?_) ((hP.set (i0 := tn) (by omega) (by omega) (by omega) v1 v2).cg (fun i x y _ _ _ => ?_)) (fun S' w1 w2 => h S' (g0.tr w1) w2)
          · by_cases q : j = k
            · subst q; exact c50
            · exact hj j (by omega)
          · constructor
            · rintro ((q | q) | q)
              · exact Or.inl q
              · exact Or.inr ⟨q.1, q.2.1, q.2.2.1, by omega⟩
              · exact Or.inr ⟨q.1, q.2.1, by omega, by omega⟩
            · rintro (q | q)
              · exact Or.inl (Or.inl q)
              · by_cases z : y = fr + k + 1
                · exact Or.inr ⟨q.1, q.2.1, z⟩
                · exact Or.inl (Or.inr ⟨q.1, q.2.1, q.2.2.1, by omega⟩)
        · skip
          refine S_vret (pc := 53) dX8_markBeginnings_53 rfl ?_
          refine h S Fr.rf (hP.cg (fun i x y _ _ _ => or_congr Iff.rfl (and_congr Iff.rfl (and_congr Iff.rfl ⟨fun q => ⟨by omega, by omega, by omega, fun j g => hj j (by omega)⟩, fun q => ⟨q.1, ?_⟩⟩))))
          rcases Nat.lt_or_ge (fr + k) y with z | z
          · exact absurd (congrArg Int32.toInt (q.2.2.2 k (by omega))) c50
          · exact z
set_option maxRecDepth 100000 in
set_option maxHeartbeats 4000000 in
theorem sX8_markBeginnings {a n m tn fr : Nat} {b e : Nat → Int32} {P : Nat → Nat → Nat → Prop} (ha : ThK a) (hn : n ≤ 16) (hm : m ≤ 12) (htn : tn < 3) (hfr : fr ≤ n) (hl : LnIs S a b n) (he : EnIs S a e m) (hP : SpB S a P)
    (h : ∀ S', Fr noX (onA' (a + 6)) S S' → SpB S' a (fun i x y => P i x y ∨ (i = tn ∧ x = fr ∧ begP b n e m tn fr y)) → Q none (mk S')) : CT sc mX8_markBeginnings [aR a, aI (nI tn), aI (nI fr)] (mk S) Q := by
  refine S_of (by decide) rfl ?_
  show G sc mX8_markBeginnings 0 [some (aR a), some (aI (nI tn)), some (aI (nI fr)), none] [] (mk S) Q
  refine G_iconst (pc := 0) (v := nI 0) dX8_markBeginnings_0 (by decide) ?_
  refine G_istore_n (pc := 1) dX8_markBeginnings_1 rfl (by decide) rfl ?_
  exact markB_lp ha hn hm htn hfr m 0 S (by omega) (by omega) (by omega) hl he (fun j g => by omega) (hP.cg (fun i x y _ _ _ => ⟨Or.inl, fun q => by rcases q with q | q; exact q; omega⟩)) h
set_option maxRecDepth 100000 in
set_option maxHeartbeats 4000000 in
theorem markC_lp {a n m tn to : Nat} {b e : Nat → Int32} {P : Nat → Nat → Nat → Prop} (ha : ThK a) (hn : n ≤ 16) (hm : m ≤ 12) (htn : tn < 3) (hto : to ≤ n) :
    ∀ (f k : Nat) (S : ST), m + 1 - k ≤ f → 1 ≤ k → k ≤ m + 1 → k ≤ to + 1 → LnIs S a b n → EnIs S a e m → (∀ j, 1 ≤ j → j < k → turnI tn (b (to - j)) = e (m - j)) → SpB S a (fun i x y => P i x y ∨ (i = 3 + tn ∧ y = to ∧ x < to ∧ to < x + k)) →
      (∀ S', Fr noX (onA' (a + 6)) S S' → SpB S' a (fun i x y => P i x y ∨ (i = 3 + tn ∧ y = to ∧ cloP b n e m tn x to)) → Q none (mk S')) →
      G sc mX8_markClosings 2 [some (aR a), some (aI (nI tn)), some (aI (nI to)), some (aI (nI k))] [] (mk S) Q := by
  obtain ⟨k0, k1, k2, k3, k4, k5, k6⟩ := ha
  intro f
  induction f with
  | zero =>
    intro k S h1 h0 h2 h2' hl he hj hP h
    refine G_iload_n (pc := 2) dX8_markClosings_2 rfl rfl ?_
    refine G_aload_n (pc := 3) dX8_markClosings_3 rfl rfl ?_
    refine S_getR (pc := 4) (b := a + 4) dX8_markClosings_4 fX8_24 rfl rfl (by first | rfl | assumption) rfl rfl ?_
    refine S_getI (pc := 7) dX8_markClosings_7 fX8_35 rfl (by first | rfl | assumption) rfl ?_
    rw [he.1]
    refine N_icmp_gt (pc := 10) (tgt := 81) dX8_markClosings_10 (by decide) (by omega) (fun c10 => ?_) (fun c10 => absurd c10 (by omega))
    refine S_vret (pc := 81) dX8_markClosings_81 rfl ?_
    refine h S Fr.rf (hP.cg (fun i x y _ _ _ => or_congr Iff.rfl (and_congr Iff.rfl (and_congr Iff.rfl ⟨fun q => ⟨by omega, by omega, by omega, fun j g g2 => hj j g (by omega)⟩, fun q => ⟨q.1, by have := q.2.2.1; have := q.1; omega⟩⟩))))
  | succ f ih =>
    intro k S h1 h0 h2 h2' hl he hj hP h
    refine G_iload_n (pc := 2) dX8_markClosings_2 rfl rfl ?_
    refine G_aload_n (pc := 3) dX8_markClosings_3 rfl rfl ?_
    refine S_getR (pc := 4) (b := a + 4) dX8_markClosings_4 fX8_24 rfl rfl (by first | rfl | assumption) rfl rfl ?_
    refine S_getI (pc := 7) dX8_markClosings_7 fX8_35 rfl (by first | rfl | assumption) rfl ?_
    rw [he.1]
    refine N_icmp_gt (pc := 10) (tgt := 81) dX8_markClosings_10 (by decide) (by omega) (fun c10 => ?_) (fun c10 => ?_)
    · skip
      refine S_vret (pc := 81) dX8_markClosings_81 rfl ?_
      refine h S Fr.rf (hP.cg (fun i x y _ _ _ => or_congr Iff.rfl (and_congr Iff.rfl (and_congr Iff.rfl ⟨fun q => ⟨by omega, by omega, by omega, fun j g g2 => hj j g (by omega)⟩, fun q => ⟨q.1, by have := q.2.2.1; have := q.2.1; have := q.1; omega⟩⟩))))
    · skip
      refine G_iload_n (pc := 13) dX8_markClosings_13 rfl rfl ?_
      refine G_iload_n (pc := 14) dX8_markClosings_14 rfl rfl ?_
      refine N_icmp_gt (pc := 15) (tgt := 81) dX8_markClosings_15 (by decide) (by omega) (fun c15 => ?_) (fun c15 => ?_)
      · skip
        refine S_vret (pc := 81) dX8_markClosings_81 rfl ?_
        refine h S Fr.rf (hP.cg (fun i x y _ _ _ => or_congr Iff.rfl (and_congr Iff.rfl (and_congr Iff.rfl ⟨fun q => ⟨by omega, by omega, by omega, fun j g g2 => hj j g (by omega)⟩, fun q => ⟨q.1, by have := q.2.2.1; have := q.2.1; have := q.1; omega⟩⟩))))
      · skip
        refine G_iload_n (pc := 18) dX8_markClosings_18 rfl rfl ?_
        refine G_aload_n (pc := 19) dX8_markClosings_19 rfl rfl ?_
        refine S_getR (pc := 20) (b := a + 1) dX8_markClosings_20 fX8_14 rfl rfl (by first | rfl | assumption) rfl rfl ?_
        refine S_getR (pc := 23) (b := a + 1 + 1) dX8_markClosings_23 fX8_44 rfl rfl (by first | rfl | assumption) rfl rfl ?_
        refine G_iload_n (pc := 26) dX8_markClosings_26 rfl rfl ?_
        refine G_iload_n (pc := 27) dX8_markClosings_27 rfl rfl ?_
        refine N_isub (pc := 28) dX8_markClosings_28 (by omega) ?_
        refine N_bald (pc := 29) dX8_markClosings_29 (by first | rfl | assumption) (by first | rfl | assumption) (by omega) ?_
        rw [hl.2 (to - k) (by omega)]
        refine S_callS (av := [_, _]) (pc := 30) (z := mX1_turned) dX8_markClosings_30 zX1_turned lX8_markClosings_55 rfl (sX1_turned htn ⟨_, rfl, ?_⟩)
        refine G_aload_n (pc := 33) dX8_markClosings_33 rfl rfl ?_
        refine S_getR (pc := 34) (b := a + 4) dX8_markClosings_34 fX8_24 rfl rfl (by first | rfl | assumption) rfl rfl ?_
        refine S_getR (pc := 37) (b := a + 4 + 1) dX8_markClosings_37 fX8_44 rfl rfl (by first | rfl | assumption) rfl rfl ?_
        refine G_aload_n (pc := 40) dX8_markClosings_40 rfl rfl ?_
        refine S_getR (pc := 41) (b := a + 4) dX8_markClosings_41 fX8_24 rfl rfl (by first | rfl | assumption) rfl rfl ?_
        refine S_getI (pc := 44) dX8_markClosings_44 fX8_35 rfl (by first | rfl | assumption) rfl ?_
        rw [he.1]
        refine G_iload_n (pc := 47) dX8_markClosings_47 rfl rfl ?_
        refine N_isub (pc := 48) dX8_markClosings_48 (by omega) ?_
        refine N_bald (pc := 49) dX8_markClosings_49 (by first | rfl | assumption) (by first | rfl | assumption) (by omega) ?_
        rw [he.2 (m - k) (by omega)]
        refine T_icmp_eq (pc := 50) (tgt := 54) dX8_markClosings_50 (by decide) (fun c50 => ?_) (fun c50 => ?_)
        · skip
          have c50 := Int32.toInt_inj.mp c50
          obtain ⟨v, v1, v2, v3⟩ := hP (to - k) to (by omega) (by omega)
          refine G_aload_n (pc := 54) dX8_markClosings_54 rfl rfl ?_
          refine S_getR (pc := 55) (b := a + 6) dX8_markClosings_55 fX8_31 rfl rfl (by first | rfl | assumption) rfl rfl ?_
          refine G_iload_n (pc := 58) dX8_markClosings_58 rfl rfl ?_
          refine G_iload_n (pc := 59) dX8_markClosings_59 rfl rfl ?_
          refine N_isub (pc := 60) dX8_markClosings_60 (by omega) ?_
          refine G_bipush (pc := 61) (v := nI 17) dX8_markClosings_61 (by decide) ?_
          refine N_imul (pc := 63) dX8_markClosings_63 ?_
          refine G_iload_n (pc := 64) dX8_markClosings_64 rfl rfl ?_
          refine N_iadd (pc := 65) dX8_markClosings_65 ?_
          refine G_dup2 (pc := 66) dX8_markClosings_66 rfl rfl ?_
          refine N_bald (pc := 67) dX8_markClosings_67 (by first | rfl | assumption) (by first | rfl | assumption) (by omega) ?_
          rw [v2]
          refine G_bipush (pc := 68) (v := nI 8) dX8_markClosings_68 (by decide) ?_
          refine G_iload_n (pc := 70) dX8_markClosings_70 rfl rfl ?_
          refine G_ishl (pc := 71) dX8_markClosings_71 ?_
          rw [shl8 tn htn]
          refine G_ior (pc := 72) dX8_markClosings_72 ?_
          rw [nI_or]
          refine G_i2b (pc := 73) dX8_markClosings_73 ?_
          rw [by8n (or_lt64 v1 (by omega))]
          refine N_bast (pc := 74) dX8_markClosings_74 (by first | rfl | assumption) (by first | rfl | assumption) (by omega) ?_
          rw [by8n (or_lt64 v1 (by omega))]
          refine N_iinc (pc := 75) dX8_markClosings_75 rfl (by decide) rfl ?_
          refine G_goto (pc := 78) (tgt := 2) dX8_markClosings_78 (by decide) ?_
          have g0 : Fr noX (onA' (a + 6)) S (upI S (a + 6) ((to - k) * 17 + to) (nI (v ||| 2 ^ (3 + tn)))) := Fr.upI rfl
          refine ih (k + 1) _ (by omega) (by omega) (by omega) (by omega) (hl.fr g0 (by simp) (by show ¬ _ = _; omega)) (he.fr g0 (by simp) (by show ¬ _ = _; omega)) (fun j g g2 => ?_) ((hP.set (i0 := 3 + tn) (by omega) (by omega) (by omega) v1 v2).cg (fun i x y _ _ _ => ?_)) (fun S' w1 w2 => h S' (g0.tr w1) w2)
          · by_cases q : j = k
            · subst q; exact c50
            · exact hj j g (by omega)
          · constructor
            · rintro ((q | q) | q)
              · exact Or.inl q
              · exact Or.inr ⟨q.1, q.2.1, q.2.2.1, by omega⟩
              · exact Or.inr ⟨q.1, q.2.2, by omega, by omega⟩
            · rintro (q | q)
              · exact Or.inl (Or.inl q)
              · by_cases z : x = to - k
                · exact Or.inr ⟨q.1, z, q.2.1⟩
                · exact Or.inl (Or.inr ⟨q.1, q.2.1, q.2.2.1, by omega⟩)
        · skip
          refine S_vret (pc := 53) dX8_markClosings_53 rfl ?_
          refine h S Fr.rf (hP.cg (fun i x y _ _ _ => or_congr Iff.rfl (and_congr Iff.rfl (and_congr Iff.rfl ⟨fun q => ⟨by omega, by omega, by omega, fun j g g2 => hj j g (by omega)⟩, fun q => ⟨q.1, ?_⟩⟩))))
          rcases Nat.lt_or_ge to (x + k) with z | z
          · exact z
          · exact absurd (congrArg Int32.toInt (q.2.2.2 k (by omega) (by omega))) c50
set_option maxRecDepth 100000 in
set_option maxHeartbeats 4000000 in
theorem sX8_markClosings {a n m tn to : Nat} {b e : Nat → Int32} {P : Nat → Nat → Nat → Prop} (ha : ThK a) (hn : n ≤ 16) (hm : m ≤ 12) (htn : tn < 3) (hto : to ≤ n) (hl : LnIs S a b n) (he : EnIs S a e m) (hP : SpB S a P)
    (h : ∀ S', Fr noX (onA' (a + 6)) S S' → SpB S' a (fun i x y => P i x y ∨ (i = 3 + tn ∧ y = to ∧ cloP b n e m tn x to)) → Q none (mk S')) : CT sc mX8_markClosings [aR a, aI (nI tn), aI (nI to)] (mk S) Q := by
  refine S_of (by decide) rfl ?_
  show G sc mX8_markClosings 0 [some (aR a), some (aI (nI tn)), some (aI (nI to)), none] [] (mk S) Q
  refine G_iconst (pc := 0) (v := nI 1) dX8_markClosings_0 (by decide) ?_
  refine G_istore_n (pc := 1) dX8_markClosings_1 rfl (by decide) rfl ?_
  exact markC_lp ha hn hm htn hto (m + 1) 1 S (by omega) (by omega) (by omega) (by omega) hl he (fun j g g2 => by omega) (hP.cg (fun i x y _ _ _ => ⟨Or.inl, fun q => by rcases q with q | q; exact q; omega⟩)) h
set_option maxRecDepth 100000 in
set_option maxHeartbeats 4000000 in
theorem fillB_lp {a z : Nat} (ha : kd a = (11, z)) (hz : Nat.ble z 65536 = true) (h : ∀ S', Fr noX (onA' a) S S' → (∀ j, j < z → S'.2.1 a j = nI 0) → Q none (mk S')) :
    ∀ (d i : Nat) (S1 : ST), i + d = z → Fr noX (onA' a) S S1 → (∀ j, j < i → S1.2.1 a j = nI 0) →
      G sc mJ7_fill_031fb 5 [some (aR a), some (aI (nI 0)), some (aI (nI i)), some (aI (nI z))] [] (mk S1) Q := by
  have hz2 : z ≤ 65536 := Nat.le_of_ble_eq_true hz
  intro d
  induction d with
  | zero =>
    intro i S1 hi h1 h2
    refine G_iload_n (pc := 5) dJ7_fill_031fb_5 rfl rfl ?_
    refine G_iload_n (pc := 6) dJ7_fill_031fb_6 rfl rfl ?_
    refine N_icmp_ge (pc := 7) (tgt := 20) dJ7_fill_031fb_7 (by decide) (by omega) (fun c7 => ?_) (fun c7 => absurd c7 (by omega))
    refine S_vret (pc := 20) dJ7_fill_031fb_20 rfl ?_
    exact h S1 h1 (fun j hj => h2 j (by omega))
  | succ d ih =>
    intro i S1 hi h1 h2
    refine G_iload_n (pc := 5) dJ7_fill_031fb_5 rfl rfl ?_
    refine G_iload_n (pc := 6) dJ7_fill_031fb_6 rfl rfl ?_
    refine N_icmp_ge (pc := 7) (tgt := 20) dJ7_fill_031fb_7 (by decide) (by omega) (fun c7 => absurd c7 (by omega)) (fun c7 => ?_)
    refine G_aload_n (pc := 10) dJ7_fill_031fb_10 rfl rfl ?_
    refine G_iload_n (pc := 11) dJ7_fill_031fb_11 rfl rfl ?_
    refine G_iload_n (pc := 12) dJ7_fill_031fb_12 rfl rfl ?_
    refine N_bast (pc := 13) dJ7_fill_031fb_13 (by first | rfl | assumption) (by first | rfl | assumption) (by omega) ?_
    refine N_iinc (pc := 14) dJ7_fill_031fb_14 rfl (by decide) rfl ?_
    refine G_goto (pc := 17) (tgt := 5) dJ7_fill_031fb_17 (by decide) ?_
    refine ih (i + 1) _ (by omega) (h1.tr (Fr.upI rfl)) (fun j hj => ?_)
    by_cases q : j = i
    · subst q
      exact upI_s
    · rw [upI_n (by omega)]
      exact h2 j (by omega)
set_option maxRecDepth 100000 in
set_option maxHeartbeats 4000000 in
theorem fillB {a z : Nat} (ha : kd a = (11, z)) (hz : Nat.ble z 65536 = true) (h : ∀ S', Fr noX (onA' a) S S' → (∀ j, j < z → S'.2.1 a j = nI 0) → Q none (mk S')) : CT sc mJ7_fill_031fb [aR a, aI (nI 0)] (mk S) Q := by
  refine S_of (by decide) rfl ?_
  show G sc mJ7_fill_031fb 0 [some (aR a), some (aI (nI 0)), none, none] [] (mk S) Q
  refine G_iconst (pc := 0) (v := nI 0) dJ7_fill_031fb_0 (by decide) ?_
  refine G_istore_n (pc := 1) dJ7_fill_031fb_1 rfl (by decide) rfl ?_
  refine G_aload_n (pc := 2) dJ7_fill_031fb_2 rfl rfl ?_
  refine S_alen (pc := 3) (t := 1) dJ7_fill_031fb_3 (by first | rfl | assumption) rfl rfl ?_
  rw [show Int32.ofNat z = nI z from rfl]
  refine G_istore_n (pc := 4) dJ7_fill_031fb_4 rfl (by decide) rfl ?_
  exact fillB_lp ha hz h z 0 S (by omega) Fr.rf (fun j hj => by omega)
set_option maxRecDepth 100000 in
set_option maxHeartbeats 4000000 in
theorem fillI_lp {a z : Nat} (ha : kd a = (10, z)) (hz : Nat.ble z 65536 = true) (h : ∀ S', Fr noX (onA' a) S S' → (∀ j, j < z → S'.2.1 a j = nI 0) → Q none (mk S')) :
    ∀ (d i : Nat) (S1 : ST), i + d = z → Fr noX (onA' a) S S1 → (∀ j, j < i → S1.2.1 a j = nI 0) →
      G sc mJ7_fill_53178 5 [some (aR a), some (aI (nI 0)), some (aI (nI i)), some (aI (nI z))] [] (mk S1) Q := by
  have hz2 : z ≤ 65536 := Nat.le_of_ble_eq_true hz
  intro d
  induction d with
  | zero =>
    intro i S1 hi h1 h2
    refine G_iload_n (pc := 5) dJ7_fill_53178_5 rfl rfl ?_
    refine G_iload_n (pc := 6) dJ7_fill_53178_6 rfl rfl ?_
    refine N_icmp_ge (pc := 7) (tgt := 20) dJ7_fill_53178_7 (by decide) (by omega) (fun c7 => ?_) (fun c7 => absurd c7 (by omega))
    refine S_vret (pc := 20) dJ7_fill_53178_20 rfl ?_
    exact h S1 h1 (fun j hj => h2 j (by omega))
  | succ d ih =>
    intro i S1 hi h1 h2
    refine G_iload_n (pc := 5) dJ7_fill_53178_5 rfl rfl ?_
    refine G_iload_n (pc := 6) dJ7_fill_53178_6 rfl rfl ?_
    refine N_icmp_ge (pc := 7) (tgt := 20) dJ7_fill_53178_7 (by decide) (by omega) (fun c7 => absurd c7 (by omega)) (fun c7 => ?_)
    refine G_aload_n (pc := 10) dJ7_fill_53178_10 rfl rfl ?_
    refine G_iload_n (pc := 11) dJ7_fill_53178_11 rfl rfl ?_
    refine G_iload_n (pc := 12) dJ7_fill_53178_12 rfl rfl ?_
    refine N_iast (pc := 13) dJ7_fill_53178_13 (by first | rfl | assumption) (by first | rfl | assumption) (by omega) ?_
    refine N_iinc (pc := 14) dJ7_fill_53178_14 rfl (by decide) rfl ?_
    refine G_goto (pc := 17) (tgt := 5) dJ7_fill_53178_17 (by decide) ?_
    refine ih (i + 1) _ (by omega) (h1.tr (Fr.upI rfl)) (fun j hj => ?_)
    by_cases q : j = i
    · subst q
      exact upI_s
    · rw [upI_n (by omega)]
      exact h2 j (by omega)
set_option maxRecDepth 100000 in
set_option maxHeartbeats 4000000 in
theorem fillI {a z : Nat} (ha : kd a = (10, z)) (hz : Nat.ble z 65536 = true) (h : ∀ S', Fr noX (onA' a) S S' → (∀ j, j < z → S'.2.1 a j = nI 0) → Q none (mk S')) : CT sc mJ7_fill_53178 [aR a, aI (nI 0)] (mk S) Q := by
  refine S_of (by decide) rfl ?_
  show G sc mJ7_fill_53178 0 [some (aR a), some (aI (nI 0)), none, none] [] (mk S) Q
  refine G_iconst (pc := 0) (v := nI 0) dJ7_fill_53178_0 (by decide) ?_
  refine G_istore_n (pc := 1) dJ7_fill_53178_1 rfl (by decide) rfl ?_
  refine G_aload_n (pc := 2) dJ7_fill_53178_2 rfl rfl ?_
  refine S_alen (pc := 3) (t := 0) dJ7_fill_53178_3 (by first | rfl | assumption) rfl rfl ?_
  rw [show Int32.ofNat z = nI z from rfl]
  refine G_istore_n (pc := 4) dJ7_fill_53178_4 rfl (by decide) rfl ?_
  exact fillI_lp ha hz h z 0 S (by omega) Fr.rf (fun j hj => by omega)
/-- the row of spans, as far as turn T and position A -/
def cmpP (b : Nat → Int32) (n : Nat) (e : Nat → Int32) (m T A : Nat) (i x y : Nat) : Prop := (i < 3 ∧ (i < T ∨ (i = T ∧ x < A)) ∧ begP b n e m i x y) ∨ (3 ≤ i ∧ (i - 3 < T ∨ (i - 3 = T ∧ y < A)) ∧ cloP b n e m (i - 3) x y)
/-- the row of spans -/
def SpIs (S : ST) (a : Nat) (b : Nat → Int32) (n : Nat) (e : Nat → Int32) (m : Nat) : Prop := SpB S a (cmpP b n e m 3 0)
theorem cmpP_step {b e : Nat → Int32} {n m T A i x y : Nat} (hT : T < 3) : ((cmpP b n e m T A i x y ∨ (i = T ∧ x = A ∧ begP b n e m T A y)) ∨ (i = 3 + T ∧ y = A ∧ cloP b n e m T x A)) ↔ cmpP b n e m T (A + 1) i x y := by
  unfold cmpP
  constructor
  · rintro (((q | q) | q) | q)
    · exact Or.inl ⟨q.1, by omega, q.2.2⟩
    · exact Or.inr ⟨q.1, by omega, q.2.2⟩
    · obtain ⟨rfl, rfl, q⟩ := q
      exact Or.inl ⟨hT, by omega, q⟩
    · obtain ⟨rfl, rfl, q⟩ := q
      refine Or.inr ⟨by omega, by omega, ?_⟩
      rw [show 3 + T - 3 = T by omega]
      exact q
  · rintro (q | q)
    · by_cases z : i = T ∧ x = A
      · obtain ⟨rfl, rfl⟩ := z
        exact Or.inl (Or.inr ⟨rfl, rfl, q.2.2⟩)
      · exact Or.inl (Or.inl (Or.inl ⟨q.1, by omega, q.2.2⟩))
    · by_cases z : i = 3 + T ∧ y = A
      · obtain ⟨rfl, rfl⟩ := z
        refine Or.inr ⟨rfl, rfl, ?_⟩
        have := q.2.2
        rw [show 3 + T - 3 = T by omega] at this
        exact this
      · exact Or.inl (Or.inl (Or.inr ⟨q.1, by omega, q.2.2⟩))
theorem cmpP_next {b e : Nat → Int32} {n m T i x y : Nat} : cmpP b n e m T (n + 1) i x y ↔ cmpP b n e m (T + 1) 0 i x y := by
  unfold cmpP
  constructor
  · rintro (q | q)
    · exact Or.inl ⟨q.1, by omega, q.2.2⟩
    · exact Or.inr ⟨q.1, by omega, q.2.2⟩
  · rintro (q | q)
    · have := q.2.2.1
      have := q.2.2.2.1
      exact Or.inl ⟨q.1, by omega, q.2.2⟩
    · have := q.2.2.1
      have := q.2.2.2.1
      exact Or.inr ⟨q.1, by omega, q.2.2⟩
set_option maxRecDepth 100000 in
set_option maxHeartbeats 4000000 in
theorem compare_in {a n m T : Nat} {b e : Nat → Int32} (ha : ThK a) (hn : n ≤ 16) (hm : m ≤ 12) (hT : T < 3) :
    ∀ (d A : Nat) (S : ST), A + d = n + 1 → LnIs S a b n → EnIs S a e m → SpB S a (cmpP b n e m T A) → (∀ S', Fr noX (onA' (a + 6)) S S' → SpB S' a (cmpP b n e m (T + 1) 0) → G sc mX8_compareSpans 46 [some (aR a), some (aI (nI T)), some (aI (nI (n + 1)))] [] (mk S') Q) →
      G sc mX8_compareSpans 17 [some (aR a), some (aI (nI T)), some (aI (nI A))] [] (mk S) Q := by
  have ha0 := ha
  obtain ⟨k0, k1, k2, k3, k4, k5, k6⟩ := ha
  intro d
  induction d with
  | zero =>
    intro A S hA hl he hP h
    have eA : A = n + 1 := by omega
    subst eA
    refine G_iload_n (pc := 17) dX8_compareSpans_17 rfl rfl ?_
    refine G_aload_n (pc := 18) dX8_compareSpans_18 rfl rfl ?_
    refine S_getR (pc := 19) (b := a + 1) dX8_compareSpans_19 fX8_14 rfl rfl (by first | rfl | assumption) rfl rfl ?_
    refine S_getI (pc := 22) dX8_compareSpans_22 fX8_35 rfl (by first | rfl | assumption) rfl ?_
    rw [hl.1]
    refine N_icmp_gt (pc := 25) (tgt := 46) dX8_compareSpans_25 (by decide) (by omega) (fun c25 => ?_) (fun c25 => absurd c25 (by omega))
    exact h S Fr.rf (hP.cg (fun i x y _ _ _ => cmpP_next))
  | succ d ih =>
    intro A S hA hl he hP h
    refine G_iload_n (pc := 17) dX8_compareSpans_17 rfl rfl ?_
    refine G_aload_n (pc := 18) dX8_compareSpans_18 rfl rfl ?_
    refine S_getR (pc := 19) (b := a + 1) dX8_compareSpans_19 fX8_14 rfl rfl (by first | rfl | assumption) rfl rfl ?_
    refine S_getI (pc := 22) dX8_compareSpans_22 fX8_35 rfl (by first | rfl | assumption) rfl ?_
    rw [hl.1]
    refine N_icmp_gt (pc := 25) (tgt := 46) dX8_compareSpans_25 (by decide) (by omega) (fun c25 => absurd c25 (by omega)) (fun c25 => ?_)
    refine G_aload_n (pc := 28) dX8_compareSpans_28 rfl rfl ?_
    refine G_iload_n (pc := 29) dX8_compareSpans_29 rfl rfl ?_
    refine G_iload_n (pc := 30) dX8_compareSpans_30 rfl rfl ?_
    refine S_callV (av := [_, _]) (pc := 31) (z := mX8_markBeginnings) (ci := 7) dX8_compareSpans_31 zX8_markBeginnings lX8_compareSpans_68 rfl (by first | rfl | assumption) rfl rfl (sX8_markBeginnings ha0 hn hm hT (by omega) hl he hP (fun S1 w1 w2 => ⟨_, rfl, ?_⟩))
    refine G_aload_n (pc := 34) dX8_compareSpans_34 rfl rfl ?_
    refine G_iload_n (pc := 35) dX8_compareSpans_35 rfl rfl ?_
    refine G_iload_n (pc := 36) dX8_compareSpans_36 rfl rfl ?_
    refine S_callV (av := [_, _]) (pc := 37) (z := mX8_markClosings) (ci := 7) dX8_compareSpans_37 zX8_markClosings lX8_compareSpans_71 rfl (by first | rfl | assumption) rfl rfl (sX8_markClosings ha0 hn hm hT (by omega) (hl.fr w1 (by simp) (by show ¬ _ = _; omega)) (he.fr w1 (by simp) (by show ¬ _ = _; omega)) w2 (fun S2 v1 v2 => ⟨_, rfl, ?_⟩))
    refine N_iinc (pc := 40) dX8_compareSpans_40 rfl (by decide) rfl ?_
    refine G_goto (pc := 43) (tgt := 17) dX8_compareSpans_43 (by decide) ?_
    exact ih (A + 1) S2 (by omega) (hl.fr (w1.tr v1) (by simp) (by show ¬ _ = _; omega)) (he.fr (w1.tr v1) (by simp) (by show ¬ _ = _; omega)) (v2.cg (fun i x y _ _ _ => cmpP_step hT)) (fun S' q1 q2 => h S' ((w1.tr v1).tr q1) q2)
set_option maxRecDepth 100000 in
set_option maxHeartbeats 4000000 in
theorem compare_lp {a n m : Nat} {b e : Nat → Int32} (ha : ThK a) (hn : n ≤ 16) (hm : m ≤ 12) :
    ∀ (d T : Nat) (S : ST) (o2 : Option AV), T + d = 3 → LnIs S a b n → EnIs S a e m → SpB S a (cmpP b n e m T 0) → (∀ S', Fr noX (onA' (a + 6)) S S' → SpIs S' a b n e m → Q none (mk S')) →
      G sc mX8_compareSpans 10 [some (aR a), some (aI (nI T)), o2] [] (mk S) Q := by
  have ha0 := ha
  obtain ⟨k0, k1, k2, k3, k4, k5, k6⟩ := ha
  intro d
  induction d with
  | zero =>
    intro T S o2 hA hl he hP h
    have eA : T = 3 := by omega
    subst eA
    refine G_iload_n (pc := 10) dX8_compareSpans_10 rfl rfl ?_
    refine G_iconst (pc := 11) (v := nI 3) dX8_compareSpans_11 (by decide) ?_
    refine N_icmp_ge (pc := 12) (tgt := 52) dX8_compareSpans_12 (by decide) (by omega) (fun c12 => ?_) (fun c12 => absurd c12 (by omega))
    refine S_vret (pc := 52) dX8_compareSpans_52 rfl ?_
    exact h S Fr.rf hP
  | succ d ih =>
    intro T S o2 hA hl he hP h
    refine G_iload_n (pc := 10) dX8_compareSpans_10 rfl rfl ?_
    refine G_iconst (pc := 11) (v := nI 3) dX8_compareSpans_11 (by decide) ?_
    refine N_icmp_ge (pc := 12) (tgt := 52) dX8_compareSpans_12 (by decide) (by omega) (fun c12 => absurd c12 (by omega)) (fun c12 => ?_)
    refine G_iconst (pc := 15) (v := nI 0) dX8_compareSpans_15 (by decide) ?_
    refine G_istore_n (pc := 16) dX8_compareSpans_16 rfl (by decide) rfl ?_
    refine compare_in ha0 hn hm (by omega) (n + 1) 0 S (by omega) hl he hP (fun S1 w1 w2 => ?_)
    refine N_iinc (pc := 46) dX8_compareSpans_46 rfl (by decide) rfl ?_
    refine G_goto (pc := 49) (tgt := 10) dX8_compareSpans_49 (by decide) ?_
    exact ih (T + 1) S1 _ (by omega) (hl.fr w1 (by simp) (by show ¬ _ = _; omega)) (he.fr w1 (by simp) (by show ¬ _ = _; omega)) w2 (fun S' q1 q2 => h S' (w1.tr q1) q2)
set_option maxRecDepth 100000 in
set_option maxHeartbeats 4000000 in
theorem sX8_compareSpans {a n m : Nat} {b e : Nat → Int32} (ha : ThK a) (hn : n ≤ 16) (hm : m ≤ 12) (hl : LnIs S a b n) (he : EnIs S a e m) (h : ∀ S', Fr noX (onA' (a + 6)) S S' → SpIs S' a b n e m → Q none (mk S')) : CT sc mX8_compareSpans [aR a] (mk S) Q := by
  refine S_of (by decide) rfl ?_
  show G sc mX8_compareSpans 0 [some (aR a), none, none] [] (mk S) Q
  have ha0 := ha
  obtain ⟨k0, k1, k2, k3, k4, k5, k6⟩ := ha
  refine G_aload_n (pc := 0) dX8_compareSpans_0 rfl rfl ?_
  refine S_getR (pc := 1) (b := a + 6) dX8_compareSpans_1 fX8_31 rfl rfl (by first | rfl | assumption) rfl rfl ?_
  refine G_iconst (pc := 4) (v := nI 0) dX8_compareSpans_4 (by decide) ?_
  refine S_callS (av := [_, _]) (pc := 5) (z := mJ7_fill_031fb) dX8_compareSpans_5 zJ7_fill_031fb lX8_compareSpans_62 rfl (fillB k6 rfl (fun S1 w1 w2 => ⟨_, rfl, ?_⟩))
  refine G_iconst (pc := 8) (v := nI 0) dX8_compareSpans_8 (by decide) ?_
  refine G_istore_n (pc := 9) dX8_compareSpans_9 rfl (by decide) rfl ?_
  refine compare_lp ha0 hn hm 3 0 S1 _ (by omega) (hl.fr w1 (by simp) (by show ¬ _ = _; omega)) (he.fr w1 (by simp) (by show ¬ _ = _; omega)) (fun x y hx hy => ⟨0, by omega, w2 _ (by omega), fun i hi => ?_⟩) (fun S' q1 q2 => h S' (w1.tr q1) q2)
  rw [Nat.zero_testBit]
  refine ⟨fun q => (by cases q), fun q => ?_⟩
  rcases q with q | q <;> omega
set_option maxRecDepth 100000 in
set_option maxHeartbeats 4000000 in
theorem sX8_spanBits {a n m p q : Nat} {b e : Nat → Int32} (ha : ThK a) (hn : n ≤ 16) (hp : PlIs S a b n) (hs : SpIs S a b n e m) (hp4 : p < 40) (hq4 : q < 40) (h0 : (∀ x y, pl b n p = some x → pl b n q = some y → y ≤ x) → Q (some (aI (nI 0))) (mk S)) (h : ∀ x y v, pl b n p = some x → pl b n q = some y → x < y → v < 64 → (∀ i, i < 6 → (v.testBit i = true ↔ cmpP b n e m 3 0 i x y)) → Q (some (aI (nI v))) (mk S)) : CT sc mX8_spanBits [aR a, aI (nI p), aI (nI q)] (mk S) Q := by
  refine S_of (by decide) rfl ?_
  show G sc mX8_spanBits 0 [some (aR a), some (aI (nI p)), some (aI (nI q)), none, none] [] (mk S) Q
  have ha0 := ha
  obtain ⟨k0, k1, k2, k3, k4, k5, k6⟩ := ha
  have hf' := hp p hp4
  have ht' := hp q hq4
  rcases hf : pl b n p with _ | f
  · rw [hf] at hf'
    refine G_aload_n (pc := 0) dX8_spanBits_0 rfl rfl ?_
    refine S_getR (pc := 1) (b := a + 3) dX8_spanBits_1 fX8_20 rfl rfl (by first | rfl | assumption) rfl rfl ?_
    refine G_iload_n (pc := 4) dX8_spanBits_4 rfl rfl ?_
    refine N_iald (pc := 5) dX8_spanBits_5 (by first | rfl | assumption) (by first | rfl | assumption) (by omega) ?_
    rw [hf']
    refine G_istore_n (pc := 6) dX8_spanBits_6 rfl (by decide) rfl ?_
    refine G_aload_n (pc := 7) dX8_spanBits_7 rfl rfl ?_
    refine S_getR (pc := 8) (b := a + 3) dX8_spanBits_8 fX8_20 rfl rfl (by first | rfl | assumption) rfl rfl ?_
    refine G_iload_n (pc := 11) dX8_spanBits_11 rfl rfl ?_
    refine N_iald (pc := 12) dX8_spanBits_12 (by first | rfl | assumption) (by first | rfl | assumption) (by omega) ?_
    refine G_istore (pc := 13) dX8_spanBits_13 (by decide) rfl ?_
    refine G_iload_n (pc := 15) dX8_spanBits_15 rfl rfl ?_
    refine T_if_lt (pc := 16) (tgt := 25) dX8_spanBits_16 (by decide) (fun c16 => ?_) (fun c16 => absurd c16 (by show ¬ (-1 : Int) < 0 → False; omega))
    refine G_iconst (pc := 25) (v := nI 0) dX8_spanBits_25 (by decide) ?_
    refine G_goto (pc := 26) (tgt := 41) dX8_spanBits_26 (by decide) ?_
    refine S_iret (pc := 41) dX8_spanBits_41 rfl ?_
    exact h0 (fun x y g1 => by rw [hf] at g1; cases g1)
  · rw [hf] at hf'
    have hf' : S.2.1 (a + 3) p = nI f := hf'
    have hfn := pl_le hf
    rcases ht : pl b n q with _ | t
    · rw [ht] at ht'
      refine G_aload_n (pc := 0) dX8_spanBits_0 rfl rfl ?_
      refine S_getR (pc := 1) (b := a + 3) dX8_spanBits_1 fX8_20 rfl rfl (by first | rfl | assumption) rfl rfl ?_
      refine G_iload_n (pc := 4) dX8_spanBits_4 rfl rfl ?_
      refine N_iald (pc := 5) dX8_spanBits_5 (by first | rfl | assumption) (by first | rfl | assumption) (by omega) ?_
      rw [hf']
      refine G_istore_n (pc := 6) dX8_spanBits_6 rfl (by decide) rfl ?_
      refine G_aload_n (pc := 7) dX8_spanBits_7 rfl rfl ?_
      refine S_getR (pc := 8) (b := a + 3) dX8_spanBits_8 fX8_20 rfl rfl (by first | rfl | assumption) rfl rfl ?_
      refine G_iload_n (pc := 11) dX8_spanBits_11 rfl rfl ?_
      refine N_iald (pc := 12) dX8_spanBits_12 (by first | rfl | assumption) (by first | rfl | assumption) (by omega) ?_
      rw [ht']
      refine G_istore (pc := 13) dX8_spanBits_13 (by decide) rfl ?_
      refine G_iload_n (pc := 15) dX8_spanBits_15 rfl rfl ?_
      refine N_if_lt (pc := 16) (tgt := 25) dX8_spanBits_16 (by decide) (by omega) ?_
      refine G_iload (pc := 19) dX8_spanBits_19 rfl ?_
      refine G_iload_n (pc := 21) dX8_spanBits_21 rfl rfl ?_
      refine T_icmp_gt (pc := 22) (tgt := 29) dX8_spanBits_22 (by decide) (fun c22 => absurd c22 (by rw [nIt (by omega)]; show ¬ (f : Int) < -1; omega)) (fun c22 => ?_)
      refine G_iconst (pc := 25) (v := nI 0) dX8_spanBits_25 (by decide) ?_
      refine G_goto (pc := 26) (tgt := 41) dX8_spanBits_26 (by decide) ?_
      refine S_iret (pc := 41) dX8_spanBits_41 rfl ?_
      exact h0 (fun x y g1 g2 => by rw [ht] at g2; cases g2)
    · rw [ht] at ht'
      have ht' : S.2.1 (a + 3) q = nI t := ht'
      have htn := pl_le ht
      obtain ⟨v, v1, v2, v3⟩ := hs f t (by omega) (by omega)
      refine G_aload_n (pc := 0) dX8_spanBits_0 rfl rfl ?_
      refine S_getR (pc := 1) (b := a + 3) dX8_spanBits_1 fX8_20 rfl rfl (by first | rfl | assumption) rfl rfl ?_
      refine G_iload_n (pc := 4) dX8_spanBits_4 rfl rfl ?_
      refine N_iald (pc := 5) dX8_spanBits_5 (by first | rfl | assumption) (by first | rfl | assumption) (by omega) ?_
      rw [hf']
      refine G_istore_n (pc := 6) dX8_spanBits_6 rfl (by decide) rfl ?_
      refine G_aload_n (pc := 7) dX8_spanBits_7 rfl rfl ?_
      refine S_getR (pc := 8) (b := a + 3) dX8_spanBits_8 fX8_20 rfl rfl (by first | rfl | assumption) rfl rfl ?_
      refine G_iload_n (pc := 11) dX8_spanBits_11 rfl rfl ?_
      refine N_iald (pc := 12) dX8_spanBits_12 (by first | rfl | assumption) (by first | rfl | assumption) (by omega) ?_
      rw [ht']
      refine G_istore (pc := 13) dX8_spanBits_13 (by decide) rfl ?_
      refine G_iload_n (pc := 15) dX8_spanBits_15 rfl rfl ?_
      refine N_if_lt (pc := 16) (tgt := 25) dX8_spanBits_16 (by decide) (by omega) ?_
      refine G_iload (pc := 19) dX8_spanBits_19 rfl ?_
      refine G_iload_n (pc := 21) dX8_spanBits_21 rfl rfl ?_
      refine N_icmp_gt (pc := 22) (tgt := 29) dX8_spanBits_22 (by decide) (by omega) (fun c22 => ?_) (fun c22 => ?_)
      · skip
        have z := c22
        refine G_aload_n (pc := 29) dX8_spanBits_29 rfl rfl ?_
        refine S_getR (pc := 30) (b := a + 6) dX8_spanBits_30 fX8_31 rfl rfl (by first | rfl | assumption) rfl rfl ?_
        refine G_iload_n (pc := 33) dX8_spanBits_33 rfl rfl ?_
        refine G_bipush (pc := 34) (v := nI 17) dX8_spanBits_34 (by decide) ?_
        refine N_imul (pc := 36) dX8_spanBits_36 ?_
        refine G_iload (pc := 37) dX8_spanBits_37 rfl ?_
        refine N_iadd (pc := 39) dX8_spanBits_39 ?_
        refine N_bald (pc := 40) dX8_spanBits_40 (by first | rfl | assumption) (by first | rfl | assumption) (by omega) ?_
        rw [v2]
        refine S_iret (pc := 41) dX8_spanBits_41 rfl ?_
        first | exact h f t v hf ht z v1 v3 | exact h0 z
      · skip
        have z : ∀ x y, pl b n p = some x → pl b n q = some y → y ≤ x := fun x y g1 g2 => by
          rw [hf] at g1
          rw [ht] at g2
          cases g1
          cases g2
          omega
        refine G_iconst (pc := 25) (v := nI 0) dX8_spanBits_25 (by decide) ?_
        refine G_goto (pc := 26) (tgt := 41) dX8_spanBits_26 (by decide) ?_
        refine S_iret (pc := 41) dX8_spanBits_41 rfl ?_
        first | exact h f t v hf ht z v1 v3 | exact h0 z
end C4
