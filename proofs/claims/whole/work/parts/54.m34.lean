/-! the model: ones, fitsBut, slips -/
/-- how many of the f lowest bits are set -/
def pcG : Nat → Nat → Nat
  | 0, _ => 0
  | f + 1, n => n % 2 + pcG f (n / 2)
def pcn (n : Nat) : Nat := pcG 12 n
theorem pcG_le : ∀ f n, pcG f n ≤ f
  | 0, _ => Nat.le_refl _
  | f + 1, n => by
    have := pcG_le f (n / 2)
    unfold pcG
    omega
theorem pcG_0 : ∀ f, pcG f 0 = 0
  | 0 => rfl
  | f + 1 => by
    show 0 % 2 + pcG f (0 / 2) = 0
    rw [show 0 / 2 = 0 from rfl, pcG_0 f]
theorem pcG_step : ∀ f n, n < 2 ^ f → 0 < n → pcG f (n &&& (n - 1)) + 1 = pcG f n
  | 0, n, h1, h2 => by simp at h1; omega
  | f + 1, n, h1, h2 => by
    have e0 : (n &&& (n - 1)) % 2 = 0 := by
      have q := Nat.and_mod_two_eq_one (a := n) (b := n - 1)
      have : ¬ (n &&& (n - 1)) % 2 = 1 := fun z => by have := q.mp z; omega
      omega
    have e1 : pcG (f + 1) (n &&& (n - 1)) = pcG f (n / 2 &&& (n - 1) / 2) := by
      show (n &&& (n - 1)) % 2 + pcG f ((n &&& (n - 1)) / 2) = _
      rw [e0, Nat.and_div_two, Nat.zero_add]
    have e2 : pcG (f + 1) n = n % 2 + pcG f (n / 2) := rfl
    rw [e1, e2]
    by_cases h : n % 2 = 1
    · rw [show (n - 1) / 2 = n / 2 by omega, Nat.and_self]
      omega
    · rw [show (n - 1) / 2 = n / 2 - 1 by omega]
      have := pcG_step f (n / 2) (by rw [Nat.pow_succ] at h1; omega) (by omega)
      omega
theorem pcG_pos : ∀ f n, n < 2 ^ f → 0 < n → 0 < pcG f n := fun f n h1 h2 => by
  have := pcG_step f n h1 h2
  omega
theorem nI_and (a b : Nat) : nI a &&& nI b = nI (a &&& b) := by
  apply Int32.toBitVec_inj.1
  show BitVec.ofNat 32 a &&& BitVec.ofNat 32 b = BitVec.ofNat 32 (a &&& b)
  rw [← BitVec.ofNat_and]
/-- x & ~y is 0: x is part of y -/
theorem bv_sub (x y : BitVec 32) : (x &&& ~~~y = 0#32) ↔ x &&& y = x := by
  constructor
  · intro h
    apply BitVec.eq_of_getLsbD_eq
    intro i hi
    have := congrArg (fun z => BitVec.getLsbD z i) h
    simp [hi] at this ⊢
    intro hx
    exact this hx
  · intro h
    apply BitVec.eq_of_getLsbD_eq
    intro i hi
    have := congrArg (fun z => BitVec.getLsbD z i) h
    simp [hi] at this ⊢
    exact this
theorem sub0 {a b : Nat} (ha : a < 4096) : (nI a &&& (nI b ^^^ (-1 : Int32))).toInt = 0 ↔ a &&& b = a := by
  have h1 : (nI a &&& (nI b ^^^ (-1 : Int32))).toInt = 0 ↔ nI a &&& (nI b ^^^ (-1 : Int32)) = 0 := ⟨fun h => Int32.toInt_inj.mp h, fun h => by rw [h]; rfl⟩
  rw [h1, ← Int32.toBitVec_inj]
  have h2 := bv_sub (BitVec.ofNat 32 a) (BitVec.ofNat 32 b)
  have h3 : (nI a &&& (nI b ^^^ (-1 : Int32))).toBitVec = BitVec.ofNat 32 a &&& ~~~(BitVec.ofNat 32 b) := by rw [BitVec.not_def, BitVec.xor_comm]; rfl
  rw [h3]
  refine h2.trans ?_
  rw [← BitVec.ofNat_and]
  constructor
  · intro h
    have h4 := congrArg BitVec.toNat h
    rw [BitVec.toNat_ofNat, BitVec.toNat_ofNat, Nat.mod_eq_of_lt (by have := Nat.and_le_left (n := a) (m := b); omega), Nat.mod_eq_of_lt (by omega)] at h4
    exact h4
  · intro h
    rw [h]
/-- the bits of the shown things among the first t -/
def alB (S : ST) : Nat → Nat
  | 0 => 0
  | t + 1 => alB S t + (if stN S t = 1 then 1 else 0) * 2 ^ t
theorem alB_lt (S : ST) : ∀ t, alB S t < 2 ^ t
  | 0 => by show 0 < 1; decide
  | t + 1 => by
    have := alB_lt S t
    rw [Nat.pow_succ]
    unfold alB
    split <;> omega
theorem p2_le {t : Nat} (h : t ≤ 12) : 2 ^ t ≤ 4096 := Nat.pow_le_pow_right (by decide) h
/-- with these left out some program fits -/
def ftB (S : ST) (but : Nat) : Bool := decide (shL S but = [] ∨ 0 < fitN S (shL S but) 1 ∨ 0 < fitN S (shL S but) 2 ∨ 0 < fitN S (shL S but) 3)
def slG (S : ST) (all : Nat) : Nat → Nat → Nat → Nat
  | 0, _, b => b
  | d + 1, but, b => if but &&& all = but ∧ (pcn but < pcn b ∨ (pcn but = pcn b ∧ but < b)) ∧ ftB S but = true then slG S all d (but + 1) but else slG S all d (but + 1) b
def sp_slips (S : ST) : Int32 := if alB S (thN S) = 0 then -2 else nI (slG S (alB S (thN S)) (alB S (thN S) + 1) 0 (alB S (thN S)))
theorem shL_w {S S' : ST} (g : Fr wX wA S S') (but : Nat) : shL S' but = shL S but := by
  unfold shL
  rw [thN_w g, shF_eq (g.2.1 392 (by omega))]
theorem fitN_w {S S' : ST} (h : SpW S S') (ts : List Nat) (n : Nat) : fitN S' ts n = fitN S ts n := by unfold fitN; rw [frA_w h, bhA_w h, fitP_w h]
theorem ftB_w {S S' : ST} (g : Fr wX wA S S') (but : Nat) : ftB S' but = ftB S but := by
  unfold ftB
  rw [shL_w g, fitN_w (SpW_wf g), fitN_w (SpW_wf g), fitN_w (SpW_wf g)]
theorem MI0_w {S S' : ST} (g : Fr wX wA S S') (he : MIe S') (h : MI0 S) : MI0 S' := ⟨MIa_w g h.1, MIb_w g h.2.1, he, by rw [shL_w g]; exact h.2.2.2⟩
section M34
variable {sc : SC} {S : ST} {Q : Option AV → HM → Prop}
set_option maxRecDepth 100000 in
set_option maxHeartbeats 4000000 in
theorem ones_lp {x : Int32} : ∀ (d b c : Nat), pcn b = d → b < 4096 → c + d ≤ 100 → Q (some (aI (nI (c + d)))) (mk S) → G sc mX10_ones 4 [some (aI x), some (aI (nI c)), some (aI (nI b))] [] (mk S) Q := by
  intro d
  induction d with
  | zero =>
    intro b c hd hb hc h
    have e : b = 0 := by
      rcases Nat.eq_zero_or_pos b with q | q
      · exact q
      · have := pcG_pos 12 b hb q
        unfold pcn at hd
        omega
    subst e
    refine G_iload_n (pc := 4) dX10_ones_4 rfl rfl ?_
    refine N_if_eq (pc := 5) (tgt := 20) dX10_ones_5 (by decide) (by omega) (fun c5 => ?_) (fun c5 => absurd c5 (by omega))
    refine G_iload_n (pc := 20) dX10_ones_20 rfl rfl ?_
    refine S_iret (pc := 21) dX10_ones_21 rfl ?_
    exact h
  | succ d ih =>
    intro b c hd hb hc h
    have hpos : 0 < b := by
      rcases Nat.eq_zero_or_pos b with q | q
      · subst q
        exact absurd hd (by unfold pcn; rw [pcG_0]; omega)
      · exact q
    have h1 := pcG_step 12 b hb hpos
    have h2 := Nat.and_le_left (n := b) (m := b - 1)
    have h3 := pcG_le 12 b
    unfold pcn at hd
    refine G_iload_n (pc := 4) dX10_ones_4 rfl rfl ?_
    refine N_if_eq (pc := 5) (tgt := 20) dX10_ones_5 (by decide) (by omega) (fun c5 => absurd c5 (by omega)) (fun c5 => ?_)
    refine N_iinc (pc := 8) dX10_ones_8 rfl (by decide) rfl ?_
    refine G_iload_n (pc := 11) dX10_ones_11 rfl rfl ?_
    refine G_iload_n (pc := 12) dX10_ones_12 rfl rfl ?_
    refine G_iconst (pc := 13) (v := nI 1) dX10_ones_13 (by decide) ?_
    refine N_isub (pc := 14) dX10_ones_14 (by omega) ?_
    refine G_iand (pc := 15) dX10_ones_15 ?_
    rw [nI_and]
    refine G_istore_n (pc := 16) dX10_ones_16 rfl (by decide) rfl ?_
    refine G_goto (pc := 17) (tgt := 4) dX10_ones_17 (by decide) ?_
    exact ih _ (c + 1) (by unfold pcn; omega) (by omega) (by omega) (by rw [show c + 1 + d = c + (d + 1) by omega]; exact h)
set_option maxRecDepth 100000 in
set_option maxHeartbeats 4000000 in
theorem sX10_ones {b : Nat} (hb : b < 4096) (h : Q (some (aI (nI (pcn b)))) (mk S)) : CT sc mX10_ones [aI (nI b)] (mk S) Q := by
  refine S_of (by decide) rfl ?_
  show G sc mX10_ones 0 [some (aI (nI b)), none, none] [] (mk S) Q
  refine G_iconst (pc := 0) (v := nI 0) dX10_ones_0 (by decide) ?_
  refine G_istore_n (pc := 1) dX10_ones_1 rfl (by decide) rfl ?_
  refine G_iload_n (pc := 2) dX10_ones_2 rfl rfl ?_
  refine G_istore_n (pc := 3) dX10_ones_3 rfl (by decide) rfl ?_
  exact ones_lp (pcn b) b 0 rfl hb (by have := pcG_le 12 b; unfold pcn; omega) (by rw [Nat.zero_add]; exact h)
set_option maxRecDepth 100000 in
set_option maxHeartbeats 4000000 in
theorem sX10_fitsBut {but : Nat} (hi : MI0 S) (hb : but < 4096) (h : ∀ S', Fr wX wA S S' → MIe S' → Q (some (aI (bI (ftB S but)))) (mk S')) : CT sc mX10_fitsBut [aR 389, aI (nI but)] (mk S) Q := by
  refine S_of (by decide) rfl ?_
  show G sc mX10_fitsBut 0 [some (aR 389), some (aI (nI but))] [] (mk S) Q
  have hl := shL_len (S := S) (but := but)
  have hl4 := hi.2.2.2
  unfold ftB at h
  refine G_aload_n (pc := 0) dX10_fitsBut_0 rfl rfl ?_
  refine G_iload_n (pc := 1) dX10_fitsBut_1 rfl rfl ?_
  refine S_callV (av := [_]) (pc := 2) (z := mX10_findShown) (ci := 9) dX10_fitsBut_2 zX10_findShown lX10_fitsBut_205 rfl (by first | rfl | assumption) rfl rfl (sX10_findShown (but := but) hi.1 hi.2.1 hb (by omega) (fun S1 g1 g2 => ⟨_, rfl, ?_⟩))
  obtain ⟨f1, f2, f3⟩ := found (but := but) hi S1 g1
  have f3' := f3
  obtain ⟨B, b1, b2, b3, b4⟩ := f3
  refine G_aload_n (pc := 5) dX10_fitsBut_5 rfl rfl ?_
  refine S_getI (pc := 6) dX10_fitsBut_6 fX10_164 rfl (by first | rfl | assumption) rfl ?_
  rw [g2.1]
  refine N_if_ne (pc := 9) (tgt := 14) dX10_fitsBut_9 (by decide) (by omega) (fun c9 => ?_) (fun c9 => ?_)
  · skip
    have h0 : shL S but ≠ [] := fun e => c9 (by rw [e]; rfl)
    refine G_aload_n (pc := 14) dX10_fitsBut_14 rfl rfl ?_
    refine S_callV (av := []) (pc := 15) (z := mX10_findPieces) (ci := 9) dX10_fitsBut_15 zX10_findPieces lX10_fitsBut_209 rfl (by first | rfl | assumption) rfl rfl (sX10_findPieces f1 g2 f2 b1 b2 b3 (fun i hi => (b4 _ (getD_mem2 hi)).2) (fun S2 k1 k2 k3 k4 => ⟨_, rfl, ?_⟩))
    obtain ⟨p1, p2⟩ := found2 h0 f1 f2 g2 k1 k2 k3 k4
    have w1 : SpW S S2 := (SpW_h g1).tr (SpW_f k1 (by omega))
    rw [frA_w (SpW_h g1), bhA_w (SpW_h g1)] at p1
    obtain ⟨a1, a2, a3, a4, a5, a6, a7, a8, a9, a10⟩ := p1
    have h := h S2 ((wH g1).tr (wP k1)) p2
    have q1 := fitP_le (S := S) (ts := shL S but) (F := frA S (shL S but)) (n := 1) a8 (frA S (shL S but)).length
    have q2 := fitP_le (S := S) (ts := shL S but) (F := frA S (shL S but)) (n := 2) a8 (frA S (shL S but)).length
    have q3 := fitP_le (S := S) (ts := shL S but) (F := frA S (shL S but)) (n := 3) a8 (frA S (shL S but)).length
    have z0 : (0 : Int64).toInt = 0 := rfl
    refine G_aload_n (pc := 18) dX10_fitsBut_18 rfl rfl ?_
    refine G_iconst (pc := 19) (v := nI 1) dX10_fitsBut_19 (by decide) ?_
    refine S_callV (av := [_]) (pc := 20) (z := mX10_fittingOf) (ci := 9) dX10_fitsBut_20 zX10_fittingOf lX10_fitsBut_212 rfl (by first | rfl | assumption) rfl rfl (sX10_fittingOf (by omega) a1 a2 a3 a4 a6 a7 (fun i hi => (a9 i hi).2) a8 ⟨_, rfl, ?_⟩)
    rw [fitP_w w1]
    refine G_lconst (pc := 23) (v := 0) dX10_fitsBut_23 (by decide) ?_
    refine G_lcmp (pc := 24) dX10_fitsBut_24 ?_
    refine T_if_gt (pc := 25) (tgt := 48) dX10_fitsBut_25 (by decide) (fun c25 => ?_) (fun c25 => ?_)
    · skip
      have c25 := lgc_gt.mp (Int32.lt_iff_toInt_lt.mpr c25)
      rw [lN_toInt (by omega), z0] at c25
      have c25 : 0 < fitN S (shL S but) 1 := by unfold fitN; omega
      refine G_iconst (pc := 48) (v := nI 1) dX10_fitsBut_48 (by decide) ?_
      refine G_goto (pc := 49) (tgt := 53) dX10_fitsBut_49 (by decide) ?_
      refine S_zret (pc := 53) dX10_fitsBut_53 rfl rfl ?_
      first
        | (rw [decide_eq_true (Or.inr (Or.inl c25))] at h; exact h)
        | (rw [decide_eq_true (Or.inr (Or.inr (Or.inl c35)))] at h; exact h)
        | (rw [decide_eq_true (Or.inr (Or.inr (Or.inr c45)))] at h; exact h)
        | (rw [decide_eq_false (by intro q; rcases q with q | q | q | q; exact h0 q; exact c25 q; exact c35 q; exact c45 q)] at h; exact h)
    · skip
      have c25 : ¬ _ := fun q => c25 (Int32.lt_iff_toInt_lt.mp (lgc_gt.mpr q))
      rw [lN_toInt (by omega), z0] at c25
      have c25 : ¬ 0 < fitN S (shL S but) 1 := by unfold fitN; omega
      refine G_aload_n (pc := 28) dX10_fitsBut_28 rfl rfl ?_
      refine G_iconst (pc := 29) (v := nI 2) dX10_fitsBut_29 (by decide) ?_
      refine S_callV (av := [_]) (pc := 30) (z := mX10_fittingOf) (ci := 9) dX10_fitsBut_30 zX10_fittingOf lX10_fitsBut_212 rfl (by first | rfl | assumption) rfl rfl (sX10_fittingOf (by omega) a1 a2 a3 a4 a6 a7 (fun i hi => (a9 i hi).2) a8 ⟨_, rfl, ?_⟩)
      rw [fitP_w w1]
      refine G_lconst (pc := 33) (v := 0) dX10_fitsBut_33 (by decide) ?_
      refine G_lcmp (pc := 34) dX10_fitsBut_34 ?_
      refine T_if_gt (pc := 35) (tgt := 48) dX10_fitsBut_35 (by decide) (fun c35 => ?_) (fun c35 => ?_)
      · skip
        have c35 := lgc_gt.mp (Int32.lt_iff_toInt_lt.mpr c35)
        rw [lN_toInt (by omega), z0] at c35
        have c35 : 0 < fitN S (shL S but) 2 := by unfold fitN; omega
        refine G_iconst (pc := 48) (v := nI 1) dX10_fitsBut_48 (by decide) ?_
        refine G_goto (pc := 49) (tgt := 53) dX10_fitsBut_49 (by decide) ?_
        refine S_zret (pc := 53) dX10_fitsBut_53 rfl rfl ?_
        first
          | (rw [decide_eq_true (Or.inr (Or.inl c25))] at h; exact h)
          | (rw [decide_eq_true (Or.inr (Or.inr (Or.inl c35)))] at h; exact h)
          | (rw [decide_eq_true (Or.inr (Or.inr (Or.inr c45)))] at h; exact h)
          | (rw [decide_eq_false (by intro q; rcases q with q | q | q | q; exact h0 q; exact c25 q; exact c35 q; exact c45 q)] at h; exact h)
      · skip
        have c35 : ¬ _ := fun q => c35 (Int32.lt_iff_toInt_lt.mp (lgc_gt.mpr q))
        rw [lN_toInt (by omega), z0] at c35
        have c35 : ¬ 0 < fitN S (shL S but) 2 := by unfold fitN; omega
        refine G_aload_n (pc := 38) dX10_fitsBut_38 rfl rfl ?_
        refine G_iconst (pc := 39) (v := nI 3) dX10_fitsBut_39 (by decide) ?_
        refine S_callV (av := [_]) (pc := 40) (z := mX10_fittingOf) (ci := 9) dX10_fitsBut_40 zX10_fittingOf lX10_fitsBut_212 rfl (by first | rfl | assumption) rfl rfl (sX10_fittingOf (by omega) a1 a2 a3 a4 a6 a7 (fun i hi => (a9 i hi).2) a8 ⟨_, rfl, ?_⟩)
        rw [fitP_w w1]
        refine G_lconst (pc := 43) (v := 0) dX10_fitsBut_43 (by decide) ?_
        refine G_lcmp (pc := 44) dX10_fitsBut_44 ?_
        refine T_if_le (pc := 45) (tgt := 52) dX10_fitsBut_45 (by decide) (fun c45 => ?_) (fun c45 => ?_)
        · skip
          have c45 := lgc_le.mp (Int32.le_iff_toInt_le.mpr c45)
          rw [lN_toInt (by omega), z0] at c45
          have c45 : ¬ 0 < fitN S (shL S but) 3 := by unfold fitN; omega
          refine G_iconst (pc := 52) (v := nI 0) dX10_fitsBut_52 (by decide) ?_
          refine S_zret (pc := 53) dX10_fitsBut_53 rfl rfl ?_
          first
            | (rw [decide_eq_true (Or.inr (Or.inl c25))] at h; exact h)
            | (rw [decide_eq_true (Or.inr (Or.inr (Or.inl c35)))] at h; exact h)
            | (rw [decide_eq_true (Or.inr (Or.inr (Or.inr c45)))] at h; exact h)
            | (rw [decide_eq_false (by intro q; rcases q with q | q | q | q; exact h0 q; exact c25 q; exact c35 q; exact c45 q)] at h; exact h)
        · skip
          have c45 : ¬ _ := fun q => c45 (Int32.le_iff_toInt_le.mp (lgc_le.mpr q))
          rw [lN_toInt (by omega), z0] at c45
          have c45 : 0 < fitN S (shL S but) 3 := by unfold fitN; omega
          refine G_iconst (pc := 48) (v := nI 1) dX10_fitsBut_48 (by decide) ?_
          refine G_goto (pc := 49) (tgt := 53) dX10_fitsBut_49 (by decide) ?_
          refine S_zret (pc := 53) dX10_fitsBut_53 rfl rfl ?_
          first
            | (rw [decide_eq_true (Or.inr (Or.inl c25))] at h; exact h)
            | (rw [decide_eq_true (Or.inr (Or.inr (Or.inl c35)))] at h; exact h)
            | (rw [decide_eq_true (Or.inr (Or.inr (Or.inr c45)))] at h; exact h)
            | (rw [decide_eq_false (by intro q; rcases q with q | q | q | q; exact h0 q; exact c25 q; exact c35 q; exact c45 q)] at h; exact h)
  · skip
    rw [decide_eq_true (Or.inl (List.length_eq_zero_iff.mp c9))] at h
    refine G_iconst (pc := 12) (v := nI 1) dX10_fitsBut_12 (by decide) ?_
    refine S_zret (pc := 13) dX10_fitsBut_13 rfl rfl ?_
    exact h S1 (wH g1) f3'
set_option maxRecDepth 100000 in
set_option maxHeartbeats 4000000 in
theorem slips_lp1 {o3 o4 : Option AV} (ha : MIa S) (hb : MIb S) (h : G sc mX10_slips 38 [some (aR 389), some (aI (nI (alB S (thN S)))), some (aI (nI (thN S))), o3, o4] [] (mk S) Q) :
    ∀ (d t : Nat), t + d = thN S → G sc mX10_slips 4 [some (aR 389), some (aI (nI (alB S t))), some (aI (nI t)), o3, o4] [] (mk S) Q := by
  have h12 := ha.1.2
  intro d
  induction d with
  | zero =>
    intro t ht
    have e : t = thN S := by omega
    subst e
    refine G_iload_n (pc := 4) dX10_slips_4 rfl rfl ?_
    refine G_aload_n (pc := 5) dX10_slips_5 rfl rfl ?_
    refine S_getI (pc := 6) dX10_slips_6 fX10_80 rfl (by first | rfl | assumption) rfl ?_
    rw [ha.1.1]
    refine N_icmp_ge (pc := 9) (tgt := 38) dX10_slips_9 (by decide) (by omega) (fun c9 => ?_) (fun c9 => absurd c9 (by omega))
    exact h
  | succ d ih =>
    intro t ht
    have hst := (hb t (by omega)).1
    have hal := alB_lt S t
    have h2 := p2_le (show t ≤ 12 by omega)
    have e0 : alB S (t + 1) = alB S t + (if stN S t = 1 then 1 else 0) * 2 ^ t := rfl
    have K : ∀ v, v = alB S (t + 1) → G sc mX10_slips 4 [some (aR 389), some (aI (nI v)), some (aI (nI (t + 1))), o3, o4] [] (mk S) Q := by
      intro v hv
      rw [hv]
      exact ih (t + 1) (by omega)
    refine G_iload_n (pc := 4) dX10_slips_4 rfl rfl ?_
    refine G_aload_n (pc := 5) dX10_slips_5 rfl rfl ?_
    refine S_getI (pc := 6) dX10_slips_6 fX10_80 rfl (by first | rfl | assumption) rfl ?_
    rw [ha.1.1]
    refine N_icmp_ge (pc := 9) (tgt := 38) dX10_slips_9 (by decide) (by omega) (fun c9 => absurd c9 (by omega)) (fun c9 => ?_)
    refine G_iload_n (pc := 12) dX10_slips_12 rfl rfl ?_
    refine G_aload_n (pc := 13) dX10_slips_13 rfl rfl ?_
    refine S_getR (pc := 14) (b := 392) dX10_slips_14 fX10_16 rfl rfl (by first | rfl | assumption) rfl rfl ?_
    refine G_iload_n (pc := 17) dX10_slips_17 rfl rfl ?_
    refine N_iald (pc := 18) dX10_slips_18 (by first | rfl | assumption) (by first | rfl | assumption) (by omega) ?_
    rw [hst.1]
    refine G_iconst (pc := 19) (v := nI 1) dX10_slips_19 (by decide) ?_
    refine N_icmp_ne (pc := 20) (tgt := 29) dX10_slips_20 (by decide) (by omega) (fun c20 => ?_) (fun c20 => ?_)
    · skip
      rw [if_neg c20] at e0
      refine G_iconst (pc := 29) (v := nI 0) dX10_slips_29 (by decide) ?_
      refine G_ior (pc := 30) dX10_slips_30 ?_
      first
      | rw [show nI (alB S t) ||| nI 0 = nI (alB S t + 0 * 2 ^ t) from by rw [← orN 0 hal]; simp]
      | rw [orN 1 hal]
      refine G_istore_n (pc := 31) dX10_slips_31 rfl (by decide) rfl ?_
      refine N_iinc (pc := 32) dX10_slips_32 rfl (by decide) rfl ?_
      refine G_goto (pc := 35) (tgt := 4) dX10_slips_35 (by decide) ?_
      exact K _ e0.symm
    · skip
      rw [if_pos c20] at e0
      refine G_iconst (pc := 23) (v := nI 1) dX10_slips_23 (by decide) ?_
      refine G_iload_n (pc := 24) dX10_slips_24 rfl rfl ?_
      refine G_ishl (pc := 25) dX10_slips_25 ?_
      rw [shlN (by omega) (by omega)]
      refine G_goto (pc := 26) (tgt := 30) dX10_slips_26 (by decide) ?_
      refine G_ior (pc := 30) dX10_slips_30 ?_
      first
      | rw [show nI (alB S t) ||| nI 0 = nI (alB S t + 0 * 2 ^ t) from by rw [← orN 0 hal]; simp]
      | rw [orN 1 hal]
      refine G_istore_n (pc := 31) dX10_slips_31 rfl (by decide) rfl ?_
      refine N_iinc (pc := 32) dX10_slips_32 rfl (by decide) rfl ?_
      refine G_goto (pc := 35) (tgt := 4) dX10_slips_35 (by decide) ?_
      exact K _ e0.symm
set_option maxRecDepth 100000 in
set_option maxHeartbeats 4000000 in
theorem slips_lp2 {S0 : ST} {all : Nat} (hi : MI0 S0) (hall : all < 4096) :
    ∀ (d but best : Nat) (S : ST) (o4 : Option AV), but + d = all + 1 → best < 4096 → Fr wX wA S0 S → MIe S → (∀ S', Fr wX wA S0 S' → MIe S' → Q (some (aI (nI (slG S0 all d but best)))) (mk S')) →
      G sc mX10_slips 49 [some (aR 389), some (aI (nI all)), some (aI (nI best)), some (aI (nI but)), o4] [] (mk S) Q := by
  intro d
  induction d with
  | zero =>
    intro but best S o4 hb hbe hF he h
    refine G_iload_n (pc := 49) dX10_slips_49 rfl rfl ?_
    refine G_iload_n (pc := 50) dX10_slips_50 rfl rfl ?_
    refine N_icmp_gt (pc := 51) (tgt := 117) dX10_slips_51 (by decide) (by omega) (fun c51 => ?_) (fun c51 => absurd c51 (by omega))
    refine G_iload_n (pc := 117) dX10_slips_117 rfl rfl ?_
    refine S_iret (pc := 118) dX10_slips_118 rfl ?_
    exact h S hF he
  | succ d ih =>
    intro but best S o4 hb hbe hF he h
    have hiS := MI0_w hF he hi
    have p1 := pcG_le 12 but
    have p2 := pcG_le 12 best
    have e0 : slG S0 all (d + 1) but best = if but &&& all = but ∧ (pcn but < pcn best ∨ (pcn but = pcn best ∧ but < best)) ∧ ftB S0 but = true then slG S0 all d (but + 1) but else slG S0 all d (but + 1) best := rfl
    have no : ∀ (S2 : ST) (o4 : Option AV), Fr wX wA S0 S2 → MIe S2 → ¬ (but &&& all = but ∧ (pcn but < pcn best ∨ (pcn but = pcn best ∧ but < best)) ∧ ftB S0 but = true) → G sc mX10_slips 111 [some (aR 389), some (aI (nI all)), some (aI (nI best)), some (aI (nI but)), o4] [] (mk S2) Q := by
      intro S2 o4 hF2 he2 hq
      rw [e0, if_neg hq] at h
      refine N_iinc (pc := 111) dX10_slips_111 rfl (by decide) rfl ?_
      refine G_goto (pc := 114) (tgt := 49) dX10_slips_114 (by decide) ?_
      exact ih (but + 1) best S2 _ (by omega) hbe hF2 he2 h
    have K : ∀ f : Bool, f = decide (pcn but < pcn best ∨ (pcn but = pcn best ∧ but < best)) → G sc mX10_slips 88 [some (aR 389), some (aI (nI all)), some (aI (nI best)), some (aI (nI but)), some (aI (bI f))] [] (mk S) Q := by
      intro f hf
      refine G_iload_n (pc := 88) dX10_slips_88 rfl rfl ?_
      refine G_iload_n (pc := 89) dX10_slips_89 rfl rfl ?_
      refine G_iconst (pc := 90) (v := (-1)) dX10_slips_90 (by decide) ?_
      refine G_ixor (pc := 91) dX10_slips_91 ?_
      refine G_iand (pc := 92) dX10_slips_92 ?_
      refine T_if_ne (pc := 93) (tgt := 111) dX10_slips_93 (by decide) (fun c93 => ?_) (fun c93 => ?_)
      · skip
        have c93 : ¬ but &&& all = but := fun q => c93 ((sub0 (by omega)).mpr q)
        first
        | exact no S _ hF he (fun q => c93 q.1)
        | exact no S _ hF he (fun q => by rw [c98] at hf; exact absurd q.2.1 (of_decide_eq_false hf.symm))
        | exact no S2 _ (hF.tr g1) g2 (fun q => by rw [c106] at q; exact absurd q.2.2 (by decide))
      · skip
        have c93 : but &&& all = but := (sub0 (by omega)).mp c93
        refine G_iload (pc := 96) dX10_slips_96 rfl ?_
        refine B_if_eq (pc := 98) (tgt := 111) dX10_slips_98 (by decide) (fun c98 => ?_) (fun c98 => ?_)
        · skip
          first
          | exact no S _ hF he (fun q => c93 q.1)
          | exact no S _ hF he (fun q => by rw [c98] at hf; exact absurd q.2.1 (of_decide_eq_false hf.symm))
          | exact no S2 _ (hF.tr g1) g2 (fun q => by rw [c106] at q; exact absurd q.2.2 (by decide))
        · skip
          refine G_aload_n (pc := 101) dX10_slips_101 rfl rfl ?_
          refine G_iload_n (pc := 102) dX10_slips_102 rfl rfl ?_
          refine S_callV (av := [_]) (pc := 103) (z := mX10_fitsBut) (ci := 9) dX10_slips_103 zX10_fitsBut lX10_slips_275 rfl (by first | rfl | assumption) rfl rfl (sX10_fitsBut hiS (by omega) (fun S2 g1 g2 => ⟨_, rfl, ?_⟩))
          rw [ftB_w hF]
          refine B_if_eq (pc := 106) (tgt := 111) dX10_slips_106 (by decide) (fun c106 => ?_) (fun c106 => ?_)
          · skip
            first
            | exact no S _ hF he (fun q => c93 q.1)
            | exact no S _ hF he (fun q => by rw [c98] at hf; exact absurd q.2.1 (of_decide_eq_false hf.symm))
            | exact no S2 _ (hF.tr g1) g2 (fun q => by rw [c106] at q; exact absurd q.2.2 (by decide))
          · skip
            rw [e0, if_pos ⟨c93, of_decide_eq_true (by rw [← hf, c98]), c106⟩] at h
            refine G_iload_n (pc := 109) dX10_slips_109 rfl rfl ?_
            refine G_istore_n (pc := 110) dX10_slips_110 rfl (by decide) rfl ?_
            refine N_iinc (pc := 111) dX10_slips_111 rfl (by decide) rfl ?_
            refine G_goto (pc := 114) (tgt := 49) dX10_slips_114 (by decide) ?_
            exact ih (but + 1) but S2 _ (by omega) (by omega) (hF.tr g1) g2 h
    refine G_iload_n (pc := 49) dX10_slips_49 rfl rfl ?_
    refine G_iload_n (pc := 50) dX10_slips_50 rfl rfl ?_
    refine N_icmp_gt (pc := 51) (tgt := 117) dX10_slips_51 (by decide) (by omega) (fun c51 => absurd c51 (by omega)) (fun c51 => ?_)
    refine G_iload_n (pc := 54) dX10_slips_54 rfl rfl ?_
    refine S_callS (av := [_]) (pc := 55) (z := mX10_ones) dX10_slips_55 zX10_ones lX10_slips_272 rfl (sX10_ones (by omega) ⟨_, rfl, ?_⟩)
    refine G_iload_n (pc := 58) dX10_slips_58 rfl rfl ?_
    refine S_callS (av := [_]) (pc := 59) (z := mX10_ones) dX10_slips_59 zX10_ones lX10_slips_272 rfl (sX10_ones (by omega) ⟨_, rfl, ?_⟩)
    refine N_icmp_lt (pc := 62) (tgt := 81) dX10_slips_62 (by decide) (by unfold pcn; omega) (fun c62 => ?_) (fun c62 => ?_)
    · skip
      refine G_iconst (pc := 81) (v := nI 1) dX10_slips_81 (by decide) ?_
      refine G_goto (pc := 82) (tgt := 86) dX10_slips_82 (by decide) ?_
      refine G_istore (pc := 86) dX10_slips_86 (by decide) rfl ?_
      first
      | exact K true (by rw [decide_eq_true]; first | exact Or.inl c62 | exact Or.inr ⟨c73, by omega⟩)
      | exact K false (by rw [decide_eq_false]; intro q; rcases q with q | q; exact c62 q; first | exact c73 q.1 | omega)
    · skip
      refine G_iload_n (pc := 65) dX10_slips_65 rfl rfl ?_
      refine S_callS (av := [_]) (pc := 66) (z := mX10_ones) dX10_slips_66 zX10_ones lX10_slips_272 rfl (sX10_ones (by omega) ⟨_, rfl, ?_⟩)
      refine G_iload_n (pc := 69) dX10_slips_69 rfl rfl ?_
      refine S_callS (av := [_]) (pc := 70) (z := mX10_ones) dX10_slips_70 zX10_ones lX10_slips_272 rfl (sX10_ones (by omega) ⟨_, rfl, ?_⟩)
      refine N_icmp_ne (pc := 73) (tgt := 85) dX10_slips_73 (by decide) (by unfold pcn; omega) (fun c73 => ?_) (fun c73 => ?_)
      · skip
        refine G_iconst (pc := 85) (v := nI 0) dX10_slips_85 (by decide) ?_
        refine G_istore (pc := 86) dX10_slips_86 (by decide) rfl ?_
        first
        | exact K true (by rw [decide_eq_true]; first | exact Or.inl c62 | exact Or.inr ⟨c73, by omega⟩)
        | exact K false (by rw [decide_eq_false]; intro q; rcases q with q | q; exact c62 q; first | exact c73 q.1 | omega)
      · skip
        refine G_iload_n (pc := 76) dX10_slips_76 rfl rfl ?_
        refine G_iload_n (pc := 77) dX10_slips_77 rfl rfl ?_
        refine N_icmp_ge (pc := 78) (tgt := 85) dX10_slips_78 (by decide) (by omega) (fun c78 => ?_) (fun c78 => ?_)
        · skip
          refine G_iconst (pc := 85) (v := nI 0) dX10_slips_85 (by decide) ?_
          refine G_istore (pc := 86) dX10_slips_86 (by decide) rfl ?_
          first
          | exact K true (by rw [decide_eq_true]; first | exact Or.inl c62 | exact Or.inr ⟨c73, by omega⟩)
          | exact K false (by rw [decide_eq_false]; intro q; rcases q with q | q; exact c62 q; first | exact c73 q.1 | omega)
        · skip
          refine G_iconst (pc := 81) (v := nI 1) dX10_slips_81 (by decide) ?_
          refine G_goto (pc := 82) (tgt := 86) dX10_slips_82 (by decide) ?_
          refine G_istore (pc := 86) dX10_slips_86 (by decide) rfl ?_
          first
          | exact K true (by rw [decide_eq_true]; first | exact Or.inl c62 | exact Or.inr ⟨c73, by omega⟩)
          | exact K false (by rw [decide_eq_false]; intro q; rcases q with q | q; exact c62 q; first | exact c73 q.1 | omega)
set_option maxRecDepth 100000 in
set_option maxHeartbeats 4000000 in
theorem sX10_slips (hi : MI0 S) (h : ∀ S', Fr wX wA S S' → MIe S' → Q (some (aI (sp_slips S))) (mk S')) : CT sc mX10_slips [aR 389] (mk S) Q := by
  refine S_of (by decide) rfl ?_
  show G sc mX10_slips 0 [some (aR 389), none, none, none, none] [] (mk S) Q
  have h12 := hi.1.1.2
  have hal := alB_lt S (thN S)
  have h2 := p2_le h12
  unfold sp_slips at h
  refine G_iconst (pc := 0) (v := nI 0) dX10_slips_0 (by decide) ?_
  refine G_istore_n (pc := 1) dX10_slips_1 rfl (by decide) rfl ?_
  refine G_iconst (pc := 2) (v := nI 0) dX10_slips_2 (by decide) ?_
  refine G_istore_n (pc := 3) dX10_slips_3 rfl (by decide) rfl ?_
  refine slips_lp1 hi.1 hi.2.1 ?_ (thN S) 0 (by omega)
  refine G_iload_n (pc := 38) dX10_slips_38 rfl rfl ?_
  refine N_if_ne (pc := 39) (tgt := 45) dX10_slips_39 (by decide) (by omega) (fun c39 => ?_) (fun c39 => ?_)
  · skip
    rw [if_neg c39] at h
    refine G_iload_n (pc := 45) dX10_slips_45 rfl rfl ?_
    refine G_istore_n (pc := 46) dX10_slips_46 rfl (by decide) rfl ?_
    refine G_iconst (pc := 47) (v := nI 0) dX10_slips_47 (by decide) ?_
    refine G_istore_n (pc := 48) dX10_slips_48 rfl (by decide) rfl ?_
    exact slips_lp2 hi (by omega) _ 0 _ S _ (by omega) (by omega) Fr.rf hi.2.2.1 h
  · skip
    rw [if_pos c39] at h
    refine G_bipush (pc := 42) (v := (-2)) dX10_slips_42 (by decide) ?_
    refine S_iret (pc := 44) dX10_slips_44 rfl ?_
    exact h S Fr.rf hi.2.2.1
end M34
