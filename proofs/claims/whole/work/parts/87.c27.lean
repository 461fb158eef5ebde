/-! the class: doing, back -/
theorem FtR.fy {Z S S' : ST} {ts : List Nat} {px : Nat → Nat → Prop} {pi : Nat → Prop} (h : FtR Z S ts) (g : Fr px pi S S') (hx : ∀ a j, 6 ≤ a ∧ a ≤ 149 → ¬ px a j) (hi : ∀ a, 6 ≤ a ∧ a ≤ 149 → ¬ pi a) (ht : ∀ t ∈ ts, t < 12 ∧ ∀ k, k < 7 → (∀ j, ¬ px (289 + 7 * t + k) j) ∧ ¬ pi (289 + 7 * t + k)) : FtR Z S' ts := by
  obtain ⟨⟨⟨q1, q2, q3, q4, q5⟩, a2, ⟨gg, a3⟩, ⟨a4, a5⟩, a6, a7⟩, y1, y2, y3⟩ := h
  have fx : ∀ j, S'.1 6 j = S.1 6 j := fun j => g.1 6 j (hx 6 j (by omega))
  refine ⟨⟨⟨(fx 1).trans q1, (fx 2).trans q2, (fx 3).trans q3, fun k hk => by rw [g.2.2]; exact q4 k hk, fun t h1 => ?_⟩, a2.k (fx 12) (g.2.1 20 (hi 20 (by omega))), ⟨gg, a3.k (fun j => g.1 12 j (hx 12 j (by omega))) (fun a h1 h2 j => g.2.1 a (hi a (by omega)) j)⟩, ⟨(fx 9).trans a4, fun l hl => by rw [g.2.1 9 (hi 9 (by omega)), g.2.1 10 (hi 10 (by omega)), g.2.1 11 (hi 11 (by omega))]; exact a5 l hl⟩, (fx 13).trans a6, (fx 14).trans a7⟩, (fx 16).trans y1, y2, fun i h1 => (y3 i h1).fr g (hx _ _ (by omega)) (hi _ (by omega))⟩
  obtain ⟨-, h3⟩ := ht t h1
  obtain ⟨b1, b2, b3, b4⟩ := q5 t h1
  exact ⟨b1.fr g ((h3 1 (by omega)).1 1) (h3 2 (by omega)).2, b2.fr g (h3 3 (by omega)).2, b3.fr g ((h3 4 (by omega)).1 1) (h3 5 (by omega)).2, b4.fr g (h3 6 (by omega)).2⟩
theorem FtZ.fy {S0 S S' : ST} {px : Nat → Nat → Prop} {pi : Nat → Prop} (h : FtZ S0 S) (hth : thN S0 ≤ 12) (g : Fr px pi S S') (hx : ∀ a j, 6 ≤ a ∧ a ≤ 149 → ¬ px a j) (hi : ∀ a, 6 ≤ a ∧ a ≤ 149 → ¬ pi a) (ht : ∀ t, t < thN S0 → stN S0 t = 1 → ∀ k, k < 7 → (∀ j, ¬ px (289 + 7 * t + k) j) ∧ ¬ pi (289 + 7 * t + k)) : FtZ S0 S' := by
  obtain ⟨Z, z1, z2, z3, z4⟩ := h
  exact ⟨Z, z1, z2, z3, z4.fy g hx hi (fun t h1 => by have h2 := shL_mem h1; exact ⟨by omega, ht t h2.1 h2.2⟩)⟩
/-- the things that a doing takes, as bits -/
def tcG (S : ST) (k : Nat) : Nat → Nat
  | 0 => 0
  | t + 1 => tcG S k t + (if tcB S k t = true then 1 else 0) * 2 ^ t
theorem tcG_lt (S : ST) (k : Nat) : ∀ t, tcG S k t < 2 ^ t
  | 0 => by show 0 < 1; omega
  | t + 1 => by
    have := tcG_lt S k t
    unfold tcG
    rw [Nat.pow_succ]
    split <;> omega
theorem tcG_bit {S : ST} {k : Nat} : ∀ n t, (tcG S k n).testBit t = decide (t < n ∧ tcB S k t = true)
  | 0, t => by
    show Nat.testBit 0 t = _
    rw [Nat.zero_testBit, decide_eq_false (by omega)]
  | n + 1, t => by
    have ih := tcG_bit (S := S) (k := k) n t
    have hl := tcG_lt S k n
    show (tcG S k n + (if tcB S k n = true then 1 else 0) * 2 ^ n).testBit t = _
    by_cases c : tcB S k n = true
    · rw [if_pos c, Nat.one_mul, show tcG S k n + 2 ^ n = 2 ^ n * 1 + tcG S k n by omega, Nat.two_pow_add_eq_or_of_lt hl, Nat.testBit_or, ih, Nat.mul_one, Nat.testBit_two_pow, Bool.eq_iff_iff]
      simp only [Bool.or_eq_true, decide_eq_true_eq]
      constructor
      · rintro (q | q)
        · subst q; exact ⟨by omega, c⟩
        · exact ⟨by omega, q.2⟩
      · intro q
        by_cases e : n = t
        · exact Or.inl e
        · exact Or.inr ⟨by omega, q.2⟩
    · rw [if_neg c, Nat.zero_mul, Nat.add_zero, ih, Bool.eq_iff_iff, decide_eq_true_eq, decide_eq_true_eq]
      constructor
      · exact fun q => ⟨by omega, q.2⟩
      · intro q
        by_cases e : t = n
        · subst e; exact absurd q.2 c
        · exact ⟨by omega, q.2⟩
theorem tc_no {S : ST} {k t : Nat} (h : k ≤ cuN S t) : ∀ d, tcB S k (t + d) = false := fun d => by
  have := cuN_mono S d t
  unfold tcB
  exact decide_eq_false (by omega)
theorem tcG_no {S : ST} {k t : Nat} (h : k ≤ cuN S t) : ∀ d, tcG S k (t + d) = tcG S k t
  | 0 => rfl
  | d + 1 => by
    show tcG S k (t + d) + (if tcB S k (t + d) = true then 1 else 0) * 2 ^ (t + d) = _
    rw [tc_no h d, if_neg (by decide), Nat.zero_mul, Nat.add_zero, tcG_no h d]
theorem dnC_no {S : ST} {k t : Nat} {ps : List Nat} (h : k ≤ cuN S t) : ∀ d, dnC S k ps (t + d) = dnC S k ps t
  | 0 => rfl
  | d + 1 => by
    show dnC S k ps (t + d) + (if tcB S k (t + d) = true ∧ oddB S (t + d) ps = false then 1 else 0) = _
    rw [tc_no h d, if_neg (fun q => absurd q.1 (by decide)), Nat.add_zero, dnC_no h d]
theorem pcG_add : ∀ (t f x : Nat), t < f → x < 2 ^ t → pcG f (x + 2 ^ t) = pcG f x + 1
  | _, 0, _, h, _ => by omega
  | 0, f + 1, x, _, hx => by
    have e : x = 0 := by have : x < 1 := hx; omega
    subst e
    show 1 % 2 + pcG f 0 = 0 % 2 + pcG f 0 + 1
    omega
  | t + 1, f + 1, x, h, hx => by
    rw [Nat.pow_succ] at hx ⊢
    show (x + 2 ^ t * 2) % 2 + pcG f ((x + 2 ^ t * 2) / 2) = x % 2 + pcG f (x / 2) + 1
    have ih := pcG_add t f (x / 2) (by omega) (by omega)
    rw [show (x + 2 ^ t * 2) % 2 = x % 2 by omega, show (x + 2 ^ t * 2) / 2 = x / 2 + 2 ^ t by omega, ih]
    omega
/-- so many are taken, ahead of t -/
theorem tcG_pcn {S : ST} {k : Nat} : ∀ t, t ≤ 12 → pcn (tcG S k t) = min k (cuN S t)
  | 0, _ => by
    show pcn 0 = min k 0
    rw [Nat.min_zero]
    rfl
  | t + 1, h => by
    have ih := tcG_pcn (S := S) (k := k) t (by omega)
    have e0 : cuN S (t + 1) = cuN S t + (if stN S t = 0 then 1 else 0) := rfl
    show pcn (tcG S k t + (if tcB S k t = true then 1 else 0) * 2 ^ t) = _
    by_cases c : tcB S k t = true
    · have c2 := of_decide_eq_true c
      rw [if_pos c2.1] at e0
      rw [if_pos c, Nat.one_mul, e0]
      have := pcG_add t 12 (tcG S k t) (by omega) (tcG_lt S k t)
      show pcG 12 (tcG S k t + 2 ^ t) = _
      rw [this]
      have ih : pcG 12 (tcG S k t) = min k (cuN S t) := ih
      rw [ih]
      omega
    · have c2 : ¬ (stN S t = 0 ∧ cuN S t < k) := fun q => c (decide_eq_true q)
      rw [if_neg c, Nat.zero_mul, Nat.add_zero, ih, e0]
      split <;> omega
def DgC1 (S0 S : ST) (ps : List Nat) (u : Nat) : Prop := S.1 (289 + 7 * u) 3 = nI (if oddB S0 u ps = true then 3 else 2) ∧ (oddB S0 u ps = false → EnIs S (289 + 7 * u) (fun j => (enL S0 u ps).getD j 0) (enL S0 u ps).length)
/-- the class's things in a doing, at t -/
def DgC (S0 S : ST) (k : Nat) (ps : List Nat) (t : Nat) : Prop := S.1 0 3 = nI (thN S0) ∧ ∀ u, u < 12 → (u < thN S0 → LnIs S (289 + 7 * u) (lnB S0 u) (szN S0 u) ∧ PlIs S (289 + 7 * u) (lnB S0 u) (szN S0 u)) ∧ (u < t ∧ tcB S0 k u = true → DgC1 S0 S ps u) ∧ (¬ (u < t ∧ tcB S0 k u = true) → (u < thN S0 → CT1 S0 S u) ∧ (thN S0 ≤ u → S.1 (289 + 7 * u) 3 = nI 0))
theorem DgC.w {S0 S : ST} {k t : Nat} {ps : List Nat} (h : DgC S0 S k ps t) (hb : MIb S0) (hth : thN S0 ≤ 12) : CTw S0 S := ⟨h.1, fun u hu => by
  obtain ⟨h1, h2, h3⟩ := h.2 u (by omega)
  by_cases c : u < t ∧ tcB S0 k u = true
  · have h0 := (of_decide_eq_true c.2).1
    exact ⟨_, (h2 c).1, by split <;> omega, by split <;> omega, fun q => by omega⟩
  · obtain ⟨a1, a2, a3, a4, a5⟩ := (h3 c).1 hu
    exact ⟨stN S0 u, a3, by have := (hb u hu).1.2; omega, Iff.rfl, fun q => a4 (Or.inl q)⟩⟩
theorem CTh.dg {S0 S : ST} (h : CTh S0 S) (k : Nat) (ps : List Nat) : DgC S0 S k ps 0 := ⟨h.1, fun u hu => ⟨fun q => ⟨((h.2 u hu).1 q).1, ((h.2 u hu).1 q).2.1⟩, fun q => by omega, fun _ => h.2 u hu⟩⟩
theorem DgC.k {S0 S S' : ST} {k t : Nat} {ps : List Nat} {px : Nat → Nat → Prop} {pi : Nat → Prop} (h : DgC S0 S k ps t) (g : FrN px pi S S') (h0 : ¬ px 0 3) (h1 : ∀ a j, 289 ≤ a → a ≤ 372 → ¬ px a j) (h2 : ∀ a, 289 ≤ a → a ≤ 372 → ¬ pi a) : DgC S0 S' k ps t := ⟨(g.1 _ _ h0).trans h.1, fun u hu => by
  obtain ⟨a1, a2, a3⟩ := h.2 u hu
  refine ⟨fun q => ⟨(a1 q).1.fn g (h1 _ _ (by omega) (by omega)) (h2 _ (by omega) (by omega)), (a1 q).2.fn g (h2 _ (by omega) (by omega))⟩, fun q => ⟨(g.1 _ _ (h1 _ _ (by omega) (by omega))).trans (a2 q).1, fun z => ((a2 q).2 z).fn g (h1 _ _ (by omega) (by omega)) (h2 _ (by omega) (by omega))⟩, fun q => ⟨fun z => ((a3 q).1 z).fn g (fun j hj i => h1 _ _ (by omega) (by omega)) (fun j hj => h2 _ (by omega) (by omega)), fun z => (g.1 _ _ (h1 _ _ (by omega) (by omega))).trans ((a3 q).2 z)⟩⟩⟩
/-- one thing more, which isn't taken -/
theorem DgC.no {S0 S : ST} {k t : Nat} {ps : List Nat} (h : DgC S0 S k ps t) (hn : tcB S0 k t = false) : DgC S0 S k ps (t + 1) := ⟨h.1, fun u hu => by
  obtain ⟨a1, a2, a3⟩ := h.2 u hu
  refine ⟨a1, fun q => a2 ⟨?_, q.2⟩, fun q => a3 (fun z => q ⟨by omega, z.2⟩)⟩
  rcases Nat.lt_or_ge u t with z | z
  · exact z
  · have : u = t := by omega
    rw [this, hn] at q
    cases q.2⟩
theorem DgC.end {S0 S : ST} {k t : Nat} {ps : List Nat} (h : DgC S0 S k ps t) (hc : k ≤ cuN S0 t) : ∀ d, DgC S0 S k ps (t + d)
  | 0 => h
  | d + 1 => DgC.no (DgC.end h hc d) (tc_no hc d)
/-- one thing more, which is taken: only its state and its end have changed -/
theorem DgC.yes {S0 S S' : ST} {k t : Nat} {ps : List Nat} {px : Nat → Nat → Prop} {pi : Nat → Prop} (h : DgC S0 S k ps t) (ht : t < thN S0) (ht2 : t < 12) (g : FrN px pi S S') (h0 : ¬ px 0 3) (hpx : ∀ a j, px a j → (a = 289 + 7 * t ∧ j = 3) ∨ (a = 289 + 7 * t + 4 ∧ j = 1) ∨ a < 289) (hpi : ∀ a, pi a → a = 289 + 7 * t + 4 + 1 ∨ a < 289) (hn : tcB S0 k t = true) (hd : DgC1 S0 S' ps t) : DgC S0 S' k ps (t + 1) := ⟨(g.1 _ _ h0).trans h.1, fun u hu => by
  obtain ⟨a1, a2, a3⟩ := h.2 u hu
  have nx : ∀ a j, ¬ ((a = 289 + 7 * t ∧ j = 3) ∨ (a = 289 + 7 * t + 4 ∧ j = 1) ∨ a < 289) → ¬ px a j := fun a j q z => q (hpx a j z)
  have ni : ∀ a, ¬ (a = 289 + 7 * t + 4 + 1 ∨ a < 289) → ¬ pi a := fun a q z => q (hpi a z)
  refine ⟨fun q => ⟨(a1 q).1.fn g (nx _ _ (by omega)) (ni _ (by omega)), (a1 q).2.fn g (ni _ (by omega))⟩, fun q => ?_, fun q => ?_⟩
  · by_cases e : u = t
    · rw [e]; exact hd
    · obtain ⟨b1, b2⟩ := a2 ⟨by omega, q.2⟩
      exact ⟨(g.1 _ _ (nx _ _ (by omega))).trans b1, fun z => (b2 z).fn g (nx _ _ (by omega)) (ni _ (by omega))⟩
  · have e : ¬ u = t := fun e => q ⟨by omega, by rw [e]; exact hn⟩
    obtain ⟨b1, b2⟩ := a3 (fun z => q ⟨by omega, z.2⟩)
    exact ⟨fun z => (b1 z).fn g (fun j hj i => nx _ _ (by omega)) (fun j hj => ni _ (by omega)), fun z => (g.1 _ _ (nx _ _ (by omega))).trans (b2 z)⟩⟩
abbrev dgX (a j : Nat) : Prop := quX a j ∨ (a = 0 ∧ j = 9) ∨ (289 ≤ a ∧ a ≤ 372)
abbrev dgA (a : Nat) : Prop := quA a ∨ a = 281 ∨ (289 ≤ a ∧ a ≤ 372)
section C27
variable {sc : SC} {S : ST} {Q : Option AV → HM → Prop}
set_option maxRecDepth 100000 in
set_option maxHeartbeats 4000000 in
theorem sX9_becomesDone {S0 : ST} {t : Nat} {ps : List Nat} (ha : MIa S0) (hb : MIb S0) (ht : t < thN S0) (hC : CTw S0 S) (hln : LnIs S (289 + 7 * t) (lnB S0 t) (szN S0 t)) (hpl : PlIs S (289 + 7 * t) (lnB S0 t) (szN S0 t)) (hp : PgIs S 22 ps) (hok : PgOk ps) (hpb : PbOk ps)
    (h : ∀ S1 S2, Fr scX scA S S1 → Fr (fun a j => (a = 289 + 7 * t ∧ j = 3) ∨ (a = 289 + 7 * t + 4 ∧ j = 1)) (fun a => a = 289 + 7 * t + 4 + 1) S1 S2 → DgC1 S0 S2 ps t → Q (some (aI (bI (!oddB S0 t ps)))) (mk S2)) : CT sc mX9_becomesDone [aR 0, aR (289 + 7 * t)] (mk S) Q := by
  refine S_of (by decide) rfl ?_
  show G sc mX9_becomesDone 0 [some (aR 0), some (aR (289 + 7 * t))] [] (mk S) Q
  have hth := thB ha
  have hKt := ThK_t t (by omega)
  obtain ⟨k0, k1, k2, k3, k4, k5, k6⟩ := id hKt
  obtain ⟨y1, y2, y3, y4⟩ := ha.2 t ht
  have odd1 : ∀ S1, Fr scX scA S S1 → oddB S0 t ps = true → G sc mX9_becomesDone 8 [some (aR 0), some (aR (289 + 7 * t))] [] (mk S1) Q := by
    intro S1 x1 ho
    rw [ho] at h
    have g2 : Fr (fun a j => (a = 289 + 7 * t ∧ j = 3) ∨ (a = 289 + 7 * t + 4 ∧ j = 1)) (fun a => a = 289 + 7 * t + 4 + 1) S1 (upX S1 (289 + 7 * t) 3 (nI 3)) := Fr.upX (Or.inl ⟨rfl, rfl⟩)
    refine G_aload_n (pc := 8) dX9_becomesDone_8 rfl rfl ?_
    refine G_iconst (pc := 9) (v := nI 3) dX9_becomesDone_9 (by decide) ?_
    refine S_putI (pc := 10) dX9_becomesDone_10 fX9_145 (by decide) rfl (by first | rfl | assumption) rfl ?_
    refine G_iconst (pc := 13) (v := nI 0) dX9_becomesDone_13 (by decide) ?_
    refine S_zret (pc := 14) dX9_becomesDone_14 rfl rfl ?_
    refine h S1 _ x1 g2 ⟨?_, fun w => ?_⟩
    · rw [upX_s, if_pos ho]
    · rw [ho] at w; cases w
  refine G_aload_n (pc := 0) dX9_becomesDone_0 rfl rfl ?_
  refine G_aload_n (pc := 1) dX9_becomesDone_1 rfl rfl ?_
  refine S_callV (av := [_]) (pc := 2) (z := mX9_makesOddEnd) (ci := 8) dX9_becomesDone_2 zX9_makesOddEnd lX9_becomesDone_181 rfl (by first | rfl | assumption) rfl rfl (sX9_makesOddEnd ha hb ht hC hln hpl hp hok hpb (fun x1 S1 x2 => ⟨_, rfl, ?_⟩) (fun l x1 S1 x2 x3 => ⟨_, rfl, ?_⟩))
  · skip
    have ho : oddB S0 t ps = true := by unfold oddB; rw [x1]
    refine B_if_eq (pc := 5) (tgt := 15) dX9_becomesDone_5 (by decide) (fun c5 => absurd c5 (by decide)) (fun c5 => ?_)
    exact odd1 S1 x2 ho
  have ho : oddB S0 t ps = (!knF S0 (shp (fun i => l.getD i 0) l.length) (thN S0)) := by unfold oddB; rw [x1]
  have hl := runP_len35 hok y3 x1
  have hby := runP_by y4 _ l hok.2.1 hpb x1
  refine B_if_eq (pc := 5) (tgt := 15) dX9_becomesDone_5 (by decide) (fun c5 => ?_) (fun c5 => ?_)
  · skip
    have ho2 := ho.trans c5
    have eL : enL S0 t ps = l := by unfold enL; rw [if_neg (by rw [ho2]; decide), x1]; rfl
    rw [ho2] at h
    have g2 : Fr (fun a j => a = 289 + 7 * t ∧ j = 3) (fun _ => False) S1 (upX S1 (289 + 7 * t) 3 (nI 2)) := Fr.upX ⟨rfl, rfl⟩
    refine G_aload_n (pc := 15) dX9_becomesDone_15 rfl rfl ?_
    refine G_iconst (pc := 16) (v := nI 2) dX9_becomesDone_16 (by decide) ?_
    refine S_putI (pc := 17) dX9_becomesDone_17 fX9_145 (by decide) rfl (by first | rfl | assumption) rfl ?_
    refine G_aload_n (pc := 20) dX9_becomesDone_20 rfl rfl ?_
    refine S_getR (pc := 21) (b := 289 + 7 * t + 4) dX9_becomesDone_21 fX9_199 rfl rfl (by first | rfl | assumption) rfl rfl ?_
    refine G_aload_n (pc := 24) dX9_becomesDone_24 rfl rfl ?_
    refine S_getR (pc := 25) (b := 3) dX9_becomesDone_25 fX9_18 rfl rfl (by first | rfl | assumption) rfl rfl ?_
    refine S_callV (av := [_]) (pc := 28) (z := mX4_copyOf) (ci := 3) dX9_becomesDone_28 zX4_copyOf lX9_becomesDone_239 rfl (by first | rfl | assumption) rfl rfl (sX4_copyOf (a := 289 + 7 * t + 4) (c := 3) ⟨k4, k5, rfl⟩ RwK_s (by omega) hl hl hby (x3.kept (upX_n (by omega)) (fun _ => rfl)) (fun S2 v1 v2 => ⟨_, rfl, ?_⟩))
    refine G_iconst (pc := 31) (v := nI 1) dX9_becomesDone_31 (by decide) ?_
    refine S_zret (pc := 32) dX9_becomesDone_32 rfl rfl ?_
    have g3 : Fr (fun a j => (a = 289 + 7 * t ∧ j = 3) ∨ (a = 289 + 7 * t + 4 ∧ j = 1)) (fun a => a = 289 + 7 * t + 4 + 1) S1 S2 := (g2.mono (fun a j w => Or.inl w) (fun a w => w.elim)).tr (v1.mono (fun a j w => Or.inr w) (fun a w => w))
    refine h S1 S2 x2 g3 ⟨?_, fun _ => ?_⟩
    · rw [v1.1 _ _ (by show ¬ (_ ∧ _); omega), upX_s, if_neg (by rw [ho2]; decide)]
    · rw [eL]
      exact v2
  · skip
    exact odd1 S1 x2 (ho.trans c5)
set_option maxRecDepth 100000 in
set_option maxHeartbeats 4000000 in
theorem sX9_rememberDoing {dg x : Nat} (hd : S.1 0 9 = nI dg) (hl : dg < 512) (h : Q none (mk (upX (upI S 281 dg (nI x)) 0 9 (nI (dg + 1))))) : CT sc mX9_rememberDoing [aR 0, aI (nI x)] (mk S) Q := by
  refine S_of (by decide) rfl ?_
  show G sc mX9_rememberDoing 0 [some (aR 0), some (aI (nI x))] [] (mk S) Q
  refine G_aload_n (pc := 0) dX9_rememberDoing_0 rfl rfl ?_
  refine S_getI (pc := 1) dX9_rememberDoing_1 fX9_56 rfl (by first | rfl | assumption) rfl ?_
  rw [hd]
  refine G_sipush (pc := 4) (v := nI 512) dX9_rememberDoing_4 (by decide) ?_
  refine N_icmp_ge (pc := 7) (tgt := 30) dX9_rememberDoing_7 (by decide) (by omega) (fun c7 => absurd c7 (by omega)) (fun c7 => ?_)
  refine G_aload_n (pc := 10) dX9_rememberDoing_10 rfl rfl ?_
  refine S_getR (pc := 11) (b := 281) dX9_rememberDoing_11 fX9_52 rfl rfl (by first | rfl | assumption) rfl rfl ?_
  refine G_aload_n (pc := 14) dX9_rememberDoing_14 rfl rfl ?_
  refine S_getI (pc := 15) dX9_rememberDoing_15 fX9_56 rfl (by first | rfl | assumption) rfl ?_
  rw [hd]
  refine G_iload_n (pc := 18) dX9_rememberDoing_18 rfl rfl ?_
  refine N_iast (pc := 19) dX9_rememberDoing_19 (by first | rfl | assumption) (by first | rfl | assumption) (by omega) ?_
  refine G_aload_n (pc := 20) dX9_rememberDoing_20 rfl rfl ?_
  refine G_dup (pc := 21) dX9_rememberDoing_21 rfl ?_
  refine S_getI (pc := 22) dX9_rememberDoing_22 fX9_56 rfl (by first | rfl | assumption) rfl ?_
  rw [show (upI S 281 dg (nI x)).1 0 9 = nI dg from hd]
  refine G_iconst (pc := 25) (v := nI 1) dX9_rememberDoing_25 (by decide) ?_
  refine N_iadd (pc := 26) dX9_rememberDoing_26 ?_
  refine S_putI (pc := 27) dX9_rememberDoing_27 fX9_56 (by decide) rfl (by first | rfl | assumption) rfl ?_
  refine S_vret (pc := 30) dX9_rememberDoing_30 rfl ?_
  exact h
set_option maxRecDepth 100000 in
set_option maxHeartbeats 4000000 in
theorem doingC_lp {S0 : ST} {v : Int32} {k : Nat} (hi : MI0 S0) (q : shL S0 0 ≠ []) (q2 : neA S0 (shL S0 0) ≠ []) (hk : 1 ≤ k ∧ k ≤ 12) :
    ∀ (d t : Nat) (S : ST), t + d = thN S0 → DgC S0 S k (nr0 S0) t → FtZ S0 S →
      (∀ (S' : ST) (o5 : Option AV), FrN dgX dgA S S' → S'.1 0 9 = S.1 0 9 → S'.1 0 5 = S.1 0 5 → S'.1 0 6 = S.1 0 6 → (∀ j, S'.2.1 281 j = S.2.1 281 j) → DgC S0 S' k (nr0 S0) (thN S0) → FtZ S0 S' → G sc mX9_doing 99 [some (aR 0), some (aI (nI k)), some (aI v), some (aI (nI (tcG S0 k (thN S0)))), some (aI (nI (dnC S0 k (nr0 S0) (thN S0)))), o5] [] (mk S') Q) →
      G sc mX9_doing 32 [some (aR 0), some (aI (nI k)), some (aI v), some (aI (nI (tcG S0 k t))), some (aI (nI (dnC S0 k (nr0 S0) t))), some (aI (nI t))] [] (mk S) Q := by
  obtain ⟨ha, hb, he, h4⟩ := id hi
  have hth := thB ha
  have hok := nr0_ok hi q q2
  have hpb := nr0_b hi q q2
  intro d
  induction d with
  | zero =>
    intro t S ht hD hZ h
    have e : t = thN S0 := by omega
    subst e
    refine G_iload (pc := 32) dX9_doing_32 rfl ?_
    refine G_aload_n (pc := 34) dX9_doing_34 rfl rfl ?_
    refine S_getI (pc := 35) dX9_doing_35 fX9_27 rfl (by first | rfl | assumption) rfl ?_
    rw [hD.1]
    refine N_icmp_ge (pc := 38) (tgt := 99) dX9_doing_38 (by decide) (by omega) (fun c38 => ?_) (fun c38 => absurd c38 (by omega))
    exact h S _ FrN.rf rfl rfl rfl (fun _ => rfl) hD hZ
  | succ d ih =>
    intro t S ht hD hZ h
    have hcl := cuN_le S0 t
    have hp : 2 ^ t ≤ 2048 := by
      have : 2 ^ t ≤ 2 ^ 11 := Nat.pow_le_pow_right (by decide) (by omega)
      omega
    have htl := tcG_lt S0 k t
    have hpc := tcG_pcn (S := S0) (k := k) t (by omega)
    by_cases hcu : k ≤ cuN S0 t
    · have e1 := tcG_no hcu (d + 1)
      have e2 := dnC_no (ps := nr0 S0) hcu (d + 1)
      rw [ht] at e1 e2
      have hD2 := hD.end hcu (d + 1)
      rw [ht] at hD2
      rw [e1, e2] at h
      refine G_iload (pc := 32) dX9_doing_32 rfl ?_
      refine G_aload_n (pc := 34) dX9_doing_34 rfl rfl ?_
      refine S_getI (pc := 35) dX9_doing_35 fX9_27 rfl (by first | rfl | assumption) rfl ?_
      rw [hD.1]
      refine N_icmp_ge (pc := 38) (tgt := 99) dX9_doing_38 (by decide) (by omega) (fun c38 => absurd c38 (by omega)) (fun c38 => ?_)
      refine G_iload_n (pc := 41) dX9_doing_41 rfl rfl ?_
      refine S_callS (av := [_]) (pc := 42) (z := mJ6_bitCount_0f7a4) dX9_doing_42 zJ6_bitCount_0f7a4 lX9_doing_188 rfl (sJ6_bitCount (by omega) ⟨_, rfl, ?_⟩)
      refine G_iload_n (pc := 45) dX9_doing_45 rfl rfl ?_
      refine N_icmp_ge (pc := 46) (tgt := 99) dX9_doing_46 (by decide) (by omega) (fun c46 => ?_) (fun c46 => absurd c46 (by omega))
      exact h S _ FrN.rf rfl rfl rfl (fun _ => rfl) hD2 hZ
    · have hKt := ThK_t t (by omega)
      obtain ⟨k0, k1, k2, k3, k4, k5, k6⟩ := id hKt
      obtain ⟨⟨b1, b2⟩, -⟩ := hb t (by omega)
      obtain ⟨d1, d2, d3⟩ := hD.2 t (by omega)
      have hc := (d3 (by omega)).1 (by omega)
      have hln := (d1 (by omega)).1
      have hpl := (d1 (by omega)).2
      have e1 : tcG S0 k (t + 1) = tcG S0 k t + (if tcB S0 k t = true then 1 else 0) * 2 ^ t := rfl
      have e2 : dnC S0 k (nr0 S0) (t + 1) = dnC S0 k (nr0 S0) t + (if tcB S0 k t = true ∧ oddB S0 t (nr0 S0) = false then 1 else 0) := rfl
      by_cases hs : stN S0 t = 0
      · have htc : tcB S0 k t = true := decide_eq_true ⟨hs, by omega⟩
        rw [if_pos htc] at e1
        have hZn : ∀ (px : Nat → Nat → Prop) (pi : Nat → Prop) S1 S2, FtZ S0 S1 → Fr px pi S1 S2 → (∀ a j, px a j → (a = 289 + 7 * t ∧ j = 3) ∨ (a = 289 + 7 * t + 4 ∧ j = 1) ∨ (a < 289 ∧ ¬ (6 ≤ a ∧ a ≤ 149))) → (∀ a, pi a → a = 289 + 7 * t + 4 + 1 ∨ (a < 289 ∧ ¬ (6 ≤ a ∧ a ≤ 149))) → FtZ S0 S2 := fun px pi S1 S2 z g h1 h2 => z.fy hth g (fun a j q w => by have := h1 a j w; omega) (fun a q w => by have := h2 a w; omega) (fun u hu hu2 k hk => ⟨fun j w => by have := h1 _ _ w; have : u ≠ t := (fun e => by rw [e, hs] at hu2; cases hu2); omega, fun w => by have := h2 _ w; have : u ≠ t := (fun e => by rw [e, hs] at hu2; cases hu2); omega⟩)
        -- the loop goes on behind the thing
        have nx : ∀ (S1 S2 : ST), Fr scX scA S S1 → Fr (fun a j => (a = 289 + 7 * t ∧ j = 3) ∨ (a = 289 + 7 * t + 4 ∧ j = 1)) (fun a => a = 289 + 7 * t + 4 + 1) S1 S2 → DgC1 S0 S2 (nr0 S0) t → G sc mX9_doing 32 [some (aR 0), some (aI (nI k)), some (aI v), some (aI (nI (tcG S0 k (t + 1)))), some (aI (nI (dnC S0 k (nr0 S0) (t + 1)))), some (aI (nI (t + 1)))] [] (mk S2) Q := by
          intro S1 S2 x1 x2 x3
          have g1 : FrN dgX dgA S S2 := (x1.n.mono (fun a j w => Or.inl (Or.inr (Or.inl w))) (fun a w => Or.inl (Or.inl w))).tr (x2.n.mono (fun a j w => Or.inr (Or.inr (by omega))) (fun a w => Or.inr (Or.inr (by omega))))
          have hD1 := hD.k x1.n (by omega) (fun a j w z => by omega) (fun a w z => by omega)
          have hD2 : DgC S0 S2 k (nr0 S0) (t + 1) := hD1.yes (by omega) (by omega) x2.n (by omega) (fun a j w => by rcases w with w | w; exact Or.inl w; exact Or.inr (Or.inl w)) (fun a w => Or.inl w) htc x3
          have hZ2 : FtZ S0 S2 := hZn _ _ S1 _ (hZn _ _ S S1 hZ x1 (fun a j w => by omega) (fun a w => by omega)) x2 (fun a j w => by omega) (fun a w => Or.inl w)
          exact ih (t + 1) S2 (by omega) hD2 hZ2 (fun S' o5 f1 f2 f3 f4 f5 => h S' o5 (g1.tr f1) (f2.trans ((x2.1 0 9 (by omega)).trans (x1.1 0 9 (by omega)))) (f3.trans ((x2.1 0 5 (by omega)).trans (x1.1 0 5 (by omega)))) (f4.trans ((x2.1 0 6 (by omega)).trans (x1.1 0 6 (by omega)))) (fun j => (f5 j).trans ((x2.2.1 281 (by omega) j).trans (x1.2.1 281 (by omega) j))))
        rw [e2] at nx
        refine G_iload (pc := 32) dX9_doing_32 rfl ?_
        refine G_aload_n (pc := 34) dX9_doing_34 rfl rfl ?_
        refine S_getI (pc := 35) dX9_doing_35 fX9_27 rfl (by first | rfl | assumption) rfl ?_
        rw [hD.1]
        refine N_icmp_ge (pc := 38) (tgt := 99) dX9_doing_38 (by decide) (by omega) (fun c38 => absurd c38 (by omega)) (fun c38 => ?_)
        refine G_iload_n (pc := 41) dX9_doing_41 rfl rfl ?_
        refine S_callS (av := [_]) (pc := 42) (z := mJ6_bitCount_0f7a4) dX9_doing_42 zJ6_bitCount_0f7a4 lX9_doing_188 rfl (sJ6_bitCount (by omega) ⟨_, rfl, ?_⟩)
        refine G_iload_n (pc := 45) dX9_doing_45 rfl rfl ?_
        refine N_icmp_ge (pc := 46) (tgt := 99) dX9_doing_46 (by decide) (by omega) (fun c46 => absurd c46 (by omega)) (fun c46 => ?_)
        refine G_aload_n (pc := 49) dX9_doing_49 rfl rfl ?_
        refine S_getR (pc := 50) (b := 5) dX9_doing_50 fX9_23 rfl rfl (by first | rfl | assumption) rfl rfl ?_
        refine G_iload (pc := 53) dX9_doing_53 rfl ?_
        refine N_aald (pc := 55) (t := 3) (n := 12) (b := 289 + 7 * t) dX9_doing_55 (by first | rfl | assumption) (by first | rfl | assumption) (by decide) (by omega) rfl ?_
        refine S_getI (pc := 56) dX9_doing_56 fX9_145 rfl (by first | rfl | assumption) rfl ?_
        rw [hc.2.2.1]
        refine N_if_ne (pc := 59) (tgt := 93) dX9_doing_59 (by decide) (by omega) (fun c59 => absurd c59 (by omega)) (fun c59 => ?_)
        refine G_iload_n (pc := 62) dX9_doing_62 rfl rfl ?_
        refine G_iconst (pc := 63) (v := nI 1) dX9_doing_63 (by decide) ?_
        refine G_iload (pc := 64) dX9_doing_64 rfl ?_
        refine G_ishl (pc := 66) dX9_doing_66 ?_
        rw [shlN (by omega) (by omega)]
        refine G_ior (pc := 67) dX9_doing_67 ?_
        rw [orN 1 (tcG_lt S0 k t), ← e1]
        refine G_istore_n (pc := 68) dX9_doing_68 rfl (by decide) rfl ?_
        refine G_iload (pc := 69) dX9_doing_69 rfl ?_
        refine G_aload_n (pc := 71) dX9_doing_71 rfl rfl ?_
        refine G_aload_n (pc := 72) dX9_doing_72 rfl rfl ?_
        refine S_getR (pc := 73) (b := 5) dX9_doing_73 fX9_23 rfl rfl (by first | rfl | assumption) rfl rfl ?_
        refine G_iload (pc := 76) dX9_doing_76 rfl ?_
        refine N_aald (pc := 78) (t := 3) (n := 12) (b := 289 + 7 * t) dX9_doing_78 (by first | rfl | assumption) (by first | rfl | assumption) (by decide) (by omega) rfl ?_
        refine S_callV (av := [_]) (pc := 79) (z := mX9_becomesDone) (ci := 8) dX9_doing_79 zX9_becomesDone lX9_doing_193 rfl (by first | rfl | assumption) rfl rfl (sX9_becomesDone ha hb (by omega) (hD.w hb hth) hln hpl (nr_22 hZ.nr q2) hok hpb (fun S1 S2 x1 x2 x3 => ⟨_, rfl, ?_⟩))
        refine B_if_eq (pc := 82) (tgt := 89) dX9_doing_82 (by decide) (fun c82 => ?_) (fun c82 => ?_)
        · skip
          rw [if_neg (fun w => by rw [w.2] at c82; cases c82)] at nx
          refine G_iconst (pc := 89) (v := nI 0) dX9_doing_89 (by decide) ?_
          refine N_iadd (pc := 90) dX9_doing_90 ?_
          refine G_istore (pc := 91) dX9_doing_91 (by decide) rfl ?_
          refine N_iinc (pc := 93) dX9_doing_93 rfl (by decide) rfl ?_
          refine G_goto (pc := 96) (tgt := 32) dX9_doing_96 (by decide) ?_
          exact nx S1 S2 x1 x2 x3
        · skip
          have ho : oddB S0 t (nr0 S0) = false := by rw [Bool.not_eq_true'] at c82; exact c82
          rw [if_pos ⟨htc, ho⟩] at nx
          refine G_iconst (pc := 85) (v := nI 1) dX9_doing_85 (by decide) ?_
          refine G_goto (pc := 86) (tgt := 90) dX9_doing_86 (by decide) ?_
          refine N_iadd (pc := 90) dX9_doing_90 ?_
          refine G_istore (pc := 91) dX9_doing_91 (by decide) rfl ?_
          refine N_iinc (pc := 93) dX9_doing_93 rfl (by decide) rfl ?_
          refine G_goto (pc := 96) (tgt := 32) dX9_doing_96 (by decide) ?_
          exact nx S1 S2 x1 x2 x3
      · have htc : tcB S0 k t = false := decide_eq_false (fun w => hs w.1)
        rw [htc, if_neg (by decide), Nat.zero_mul, Nat.add_zero] at e1
        rw [htc, if_neg (fun w => absurd w.1 (by decide)), Nat.add_zero] at e2
        have ih2 := ih (t + 1) S (by omega) (hD.no htc) hZ h
        rw [e1, e2] at ih2
        refine G_iload (pc := 32) dX9_doing_32 rfl ?_
        refine G_aload_n (pc := 34) dX9_doing_34 rfl rfl ?_
        refine S_getI (pc := 35) dX9_doing_35 fX9_27 rfl (by first | rfl | assumption) rfl ?_
        rw [hD.1]
        refine N_icmp_ge (pc := 38) (tgt := 99) dX9_doing_38 (by decide) (by omega) (fun c38 => absurd c38 (by omega)) (fun c38 => ?_)
        refine G_iload_n (pc := 41) dX9_doing_41 rfl rfl ?_
        refine S_callS (av := [_]) (pc := 42) (z := mJ6_bitCount_0f7a4) dX9_doing_42 zJ6_bitCount_0f7a4 lX9_doing_188 rfl (sJ6_bitCount (by omega) ⟨_, rfl, ?_⟩)
        refine G_iload_n (pc := 45) dX9_doing_45 rfl rfl ?_
        refine N_icmp_ge (pc := 46) (tgt := 99) dX9_doing_46 (by decide) (by omega) (fun c46 => absurd c46 (by omega)) (fun c46 => ?_)
        refine G_aload_n (pc := 49) dX9_doing_49 rfl rfl ?_
        refine S_getR (pc := 50) (b := 5) dX9_doing_50 fX9_23 rfl rfl (by first | rfl | assumption) rfl rfl ?_
        refine G_iload (pc := 53) dX9_doing_53 rfl ?_
        refine N_aald (pc := 55) (t := 3) (n := 12) (b := 289 + 7 * t) dX9_doing_55 (by first | rfl | assumption) (by first | rfl | assumption) (by decide) (by omega) rfl ?_
        refine S_getI (pc := 56) dX9_doing_56 fX9_145 rfl (by first | rfl | assumption) rfl ?_
        rw [hc.2.2.1]
        refine N_if_ne (pc := 59) (tgt := 93) dX9_doing_59 (by decide) (by omega) (fun c59 => ?_) (fun c59 => absurd c59 (by omega))
        refine N_iinc (pc := 93) dX9_doing_93 rfl (by decide) rfl ?_
        refine G_goto (pc := 96) (tgt := 32) dX9_doing_96 (by decide) ?_
        exact ih2
set_option maxRecDepth 100000 in
set_option maxHeartbeats 4000000 in
theorem sX9_doing {S0 : ST} {n : Int32} (hi : MI0 S0) (hC : CTh S0 S) (hF : CIf S0 S) (hdg : S.1 0 9 = nI (dgN S0)) (hdl : dgN S0 < 512) (hbad : ¬ (1 ≤ n.toInt ∧ n.toInt ≤ 12) → Q (some (aI (-1))) (mk S)) (h2 : 1 ≤ n.toInt ∧ n.toInt ≤ 12 → shL S0 0 = [] → Q (some (aI (-2))) (mk S)) (h4 : 1 ≤ n.toInt ∧ n.toInt ≤ 12 → shL S0 0 ≠ [] → neA S0 (shL S0 0) = [] → ∀ S', FrN fqX mwA S S' → CIf S0 S' → Q (some (aI (-4))) (mk S'))
    (h : ∀ k, n = nI k → 1 ≤ k ∧ k ≤ 12 → shL S0 0 ≠ [] → neA S0 (shL S0 0) ≠ [] → ∀ S', FrN dgX dgA S S' → S'.1 0 9 = nI (dgN S0 + 1) → S'.1 0 5 = nI 1 → S'.1 0 6 = S.1 0 6 → (∀ j, S'.2.1 281 j = if j = dgN S0 then nI (tcG S0 k (thN S0)) else S.2.1 281 j) → DgC S0 S' k (nr0 S0) (thN S0) → FtZ S0 S' → Q (some (aI (nI (dnC S0 k (nr0 S0) (thN S0))))) (mk S')) : CT sc mX9_doing [aR 0, aI n] (mk S) Q := by
  refine S_of (by decide) rfl ?_
  show G sc mX9_doing 0 [some (aR 0), some (aI n), none, none, none, none] [] (mk S) Q
  have z1 : (nI 1).toInt = 1 := rfl
  have z12 : (nI 12).toInt = 12 := rfl
  by_cases c : 1 ≤ n.toInt ∧ n.toInt ≤ 12
  · have en : n = nI n.toInt.toNat := nI_ofT (by omega)
    have hk : 1 ≤ n.toInt.toNat ∧ n.toInt.toNat ≤ 12 := by omega
    generalize n.toInt.toNat = k at en hk
    subst en
    refine G_iload_n (pc := 0) dX9_doing_0 rfl rfl ?_
    refine G_iconst (pc := 1) (v := nI 1) dX9_doing_1 (by decide) ?_
    refine N_icmp_lt (pc := 2) (tgt := 11) dX9_doing_2 (by decide) (by omega) (fun c2 => absurd c2 (by omega)) (fun c2 => ?_)
    refine G_iload_n (pc := 5) dX9_doing_5 rfl rfl ?_
    refine G_bipush (pc := 6) (v := nI 12) dX9_doing_6 (by decide) ?_
    refine N_icmp_le (pc := 8) (tgt := 13) dX9_doing_8 (by decide) (by omega) (fun c8 => ?_) (fun c8 => absurd c8 (by omega))
    refine G_aload_n (pc := 13) dX9_doing_13 rfl rfl ?_
    refine S_callV (av := []) (pc := 14) (z := mX9_fitRefusal) (ci := 8) dX9_doing_14 zX9_fitRefusal lX9_doing_156 rfl (by first | rfl | assumption) rfl rfl (sX9_fitRefusal hi hC hF (fun q => ⟨_, rfl, ?_⟩) (fun q S1 w1 w2 w3 w4 => ⟨_, rfl, ?_⟩))
    · skip
      have h := h2 c q
      refine G_istore_n (pc := 17) dX9_doing_17 rfl (by decide) rfl ?_
      refine G_iload_n (pc := 18) dX9_doing_18 rfl rfl ?_
      refine T_if_eq (pc := 19) (tgt := 24) dX9_doing_19 (by decide) (fun c19 => absurd c19 (by decide)) (fun c19 => ?_)
      refine G_iload_n (pc := 22) dX9_doing_22 rfl rfl ?_
      refine S_iret (pc := 23) dX9_doing_23 rfl ?_
      exact h
    by_cases q2 : neA S0 (shL S0 0) = []
    · rw [if_pos q2]
      have h := h4 c q q2 S1 w1 w2
      refine G_istore_n (pc := 17) dX9_doing_17 rfl (by decide) rfl ?_
      refine G_iload_n (pc := 18) dX9_doing_18 rfl rfl ?_
      refine T_if_eq (pc := 19) (tgt := 24) dX9_doing_19 (by decide) (fun c19 => absurd c19 (by decide)) (fun c19 => ?_)
      refine G_iload_n (pc := 22) dX9_doing_22 rfl rfl ?_
      refine S_iret (pc := 23) dX9_doing_23 rfl ?_
      exact h
    · rw [if_neg q2]
      refine G_istore_n (pc := 17) dX9_doing_17 rfl (by decide) rfl ?_
      refine G_iload_n (pc := 18) dX9_doing_18 rfl rfl ?_
      refine T_if_eq (pc := 19) (tgt := 24) dX9_doing_19 (by decide) (fun c19 => ?_) (fun c19 => absurd c19 (by decide))
      refine G_iconst (pc := 24) (v := nI 0) dX9_doing_24 (by decide) ?_
      refine G_istore_n (pc := 25) dX9_doing_25 rfl (by decide) rfl ?_
      refine G_iconst (pc := 26) (v := nI 0) dX9_doing_26 (by decide) ?_
      refine G_istore (pc := 27) dX9_doing_27 (by decide) rfl ?_
      refine G_iconst (pc := 29) (v := nI 0) dX9_doing_29 (by decide) ?_
      refine G_istore (pc := 30) dX9_doing_30 (by decide) rfl ?_
      refine doingC_lp hi q q2 hk (thN S0) 0 S1 (by omega) ((hC.fq w1).dg k (nr0 S0)) w3 (fun S2 o5 x1 x2 x3 x4 x5 x6 x7 => ?_)
      have hd2 : S2.1 0 9 = nI (dgN S0) := x2.trans ((w1.1 0 9 (by omega)).trans hdg)
      refine G_aload_n (pc := 99) dX9_doing_99 rfl rfl ?_
      refine G_iload_n (pc := 100) dX9_doing_100 rfl rfl ?_
      refine S_callV (av := [_]) (pc := 101) (z := mX9_rememberDoing) (ci := 8) dX9_doing_101 zX9_rememberDoing lX9_doing_196 rfl (by first | rfl | assumption) rfl rfl (sX9_rememberDoing hd2 hdl ⟨_, rfl, ?_⟩)
      refine G_iload (pc := 104) dX9_doing_104 rfl ?_
      refine S_iret (pc := 106) dX9_doing_106 rfl ?_
      have g1 : Fr (fun a j => a = 0 ∧ j = 9) (fun a => a = 281) S2 (upX (upI S2 281 (dgN S0) (nI (tcG S0 k (thN S0)))) 0 9 (nI (dgN S0 + 1))) := Fr.tr (Fr.upI rfl) (Fr.upX ⟨rfl, rfl⟩)
      have g0 : FrN dgX dgA S S1 := (qu_fq w1).mono (fun a j w => Or.inl w) (fun a w => Or.inl w)
      refine h k rfl hk q q2 _ (g0.tr (x1.tr (g1.n.mono (fun a j w => Or.inr (Or.inl w)) (fun a w => Or.inr (Or.inl w))))) upX_s ((upX_n (by omega)).trans (x3.trans w4)) ((upX_n (by omega)).trans (x4.trans (w1.1 0 6 (by omega)))) (fun j => ?_) (x6.k g1.n (by omega) (fun a j w z => by omega) (fun a w z => by omega)) (x7.fx (thB hi.1) g1 (fun a j w => by omega) (fun a w => by omega))
      show (upI S2 281 (dgN S0) (nI (tcG S0 k (thN S0)))).2.1 281 j = _
      by_cases e : j = dgN S0
      · subst e; rw [upI_s, if_pos rfl]
      · rw [upI_n (by omega), if_neg e, x5, w1.2 281 (by omega)]
  · skip
    refine G_iload_n (pc := 0) dX9_doing_0 rfl rfl ?_
    refine G_iconst (pc := 1) (v := nI 1) dX9_doing_1 (by decide) ?_
    refine T_icmp_lt (pc := 2) (tgt := 11) dX9_doing_2 (by decide) (fun c2 => ?_) (fun c2 => ?_)
    · skip
      refine G_iconst (pc := 11) (v := (-1)) dX9_doing_11 (by decide) ?_
      refine S_iret (pc := 12) dX9_doing_12 rfl ?_
      exact hbad c
    · skip
      refine G_iload_n (pc := 5) dX9_doing_5 rfl rfl ?_
      refine G_bipush (pc := 6) (v := nI 12) dX9_doing_6 (by decide) ?_
      refine T_icmp_le (pc := 8) (tgt := 13) dX9_doing_8 (by decide) (fun c8 => absurd c8 (by omega)) (fun c8 => ?_)
      refine G_iconst (pc := 11) (v := (-1)) dX9_doing_11 (by decide) ?_
      refine S_iret (pc := 12) dX9_doing_12 rfl ?_
      exact hbad c
/-- the doings' bits, and by which a thing was done -/
def CDg (S0 S : ST) : Prop := S.1 0 9 = nI (dgN S0) ∧ (∀ k, k < dgN S0 → ∃ v, v < 4096 ∧ S.2.1 281 k = nI v ∧ ∀ t, t < thN S0 → (stN S0 t = 2 ∨ stN S0 t = 3) → (dbN S0 t = k + 1 → v.testBit t = true) ∧ (dbN S0 t ≤ k → v.testBit t = false))
abbrev bkX (a j : Nat) : Prop := (a = 0 ∧ j = 9) ∨ (289 ≤ a ∧ a ≤ 372 ∧ j = 3 ∧ a % 7 = 2)
def BkC (S0 S S' : ST) (dg t : Nat) : Prop := ∀ u, u < 12 → S'.1 (289 + 7 * u) 3 = if u < t ∧ dbN S0 u = dg then nI 0 else S.1 (289 + 7 * u) 3
set_option maxRecDepth 100000 in
set_option maxHeartbeats 4000000 in
theorem backC_lp {S0 Si : ST} {v dg : Nat} (hb : MIb S0) (hth : thN S0 ≤ 12) (hg : MIg S0) (hdg : dg = dgN S0) (hd0 : 0 < dg) (hv : v < 4096) (hvb : ∀ t, t < thN S0 → (stN S0 t = 2 ∨ stN S0 t = 3) → (dbN S0 t = dg → v.testBit t = true) ∧ (dbN S0 t < dg → v.testBit t = false)) (hst : ∀ t, t < thN S0 → Si.1 (289 + 7 * t) 3 = nI (stN S0 t)) (h : ∀ S', Fr bkX (fun _ => False) Si S' → S'.1 0 9 = Si.1 0 9 → BkC S0 Si S' dg (thN S0) → Q (some (aI (nI (bkC S0 dg (thN S0))))) (mk S')) :
    ∀ (d t : Nat) (S : ST) (o4 : Option AV), t + d = thN S0 → S.1 0 3 = nI (thN S0) → Fr bkX (fun _ => False) Si S → S.1 0 9 = Si.1 0 9 → BkC S0 Si S dg t →
      G sc mX9_back 34 [some (aR 0), some (aI (nI v)), some (aI (nI (bkC S0 dg t))), some (aI (nI t)), o4] [] (mk S) Q := by
  intro d
  induction d with
  | zero =>
    intro t S o4 ht h3 hF h9 hB
    have e : t = thN S0 := by omega
    subst e
    refine G_iload_n (pc := 34) dX9_back_34 rfl rfl ?_
    refine G_aload_n (pc := 35) dX9_back_35 rfl rfl ?_
    refine S_getI (pc := 36) dX9_back_36 fX9_27 rfl (by first | rfl | assumption) rfl ?_
    rw [h3]
    refine N_icmp_ge (pc := 39) (tgt := 92) dX9_back_39 (by decide) (by omega) (fun c39 => ?_) (fun c39 => absurd c39 (by omega))
    refine G_iload_n (pc := 92) dX9_back_92 rfl rfl ?_
    refine S_iret (pc := 93) dX9_back_93 rfl ?_
    exact h S hF h9 hB
  | succ d ih =>
    intro t S o4 ht h3 hF h9 hB
    obtain ⟨k0, k1, k2, k3, k4, k5, k6⟩ := ThK_t t (by omega)
    obtain ⟨⟨b1, b2⟩, -⟩ := hb t (by omega)
    obtain ⟨g1, g2, g3⟩ := hg.2 t (by omega)
    have hs : S.1 (289 + 7 * t) 3 = nI (stN S0 t) := by
      have := hB t (by omega)
      rw [if_neg (by omega)] at this
      exact this.trans (hst t (by omega))
    have e0 : bkC S0 dg (t + 1) = bkC S0 dg t + (if dbN S0 t = dg then 1 else 0) := rfl
    have hbt := hvb t (by omega)
    have yes : (stN S0 t = 2 ∨ stN S0 t = 3) → v / 2 ^ t % 2 = 1 → ∀ o4 : Option AV, G sc mX9_back 34 [some (aR 0), some (aI (nI v)), some (aI (nI (bkC S0 dg t + 1))), some (aI (nI (t + 1))), o4] [] (mk (upX S (289 + 7 * t) 3 (nI 0))) Q := fun c1 c2 o4 => by
      have hd : dbN S0 t = dg := by
        rcases Nat.lt_or_ge (dbN S0 t) dg with z | z
        · have := (hbt c1).2 z
          rw [tbE.mp c2] at this
          cases this
        · omega
      have ih2 := ih (t + 1) (upX S (289 + 7 * t) 3 (nI 0)) o4 (by omega) ((upX_n (by omega)).trans h3) (hF.tr (Fr.upX (Or.inr ⟨by omega, by omega, rfl, by omega⟩))) ((upX_n (by omega)).trans h9) (fun u hu => by
        by_cases e : u = t
        · subst e
          rw [upX_s, if_pos ⟨by omega, hd⟩]
        · rw [upX_n (by omega), hB u hu]
          by_cases z : u < t ∧ dbN S0 u = dg
          · rw [if_pos z, if_pos ⟨by omega, z.2⟩]
          · rw [if_neg z, if_neg (fun w => z ⟨by omega, w.2⟩)])
      rw [e0, if_pos hd] at ih2
      exact ih2
    have no : ¬ ((stN S0 t = 2 ∨ stN S0 t = 3) ∧ v / 2 ^ t % 2 = 1) → ∀ o4 : Option AV, G sc mX9_back 34 [some (aR 0), some (aI (nI v)), some (aI (nI (bkC S0 dg t))), some (aI (nI (t + 1))), o4] [] (mk S) Q := fun c o4 => by
      have hd : ¬ dbN S0 t = dg := fun e => by
        have c1 := g3.mp (by omega)
        exact c ⟨c1, tbE.mpr ((hbt c1).1 e)⟩
      have ih2 := ih (t + 1) S o4 (by omega) h3 hF h9 (fun u hu => by
        rw [hB u hu]
        by_cases e : u = t
        · subst e
          rw [if_neg (by omega), if_neg (fun w => hd w.2)]
        · by_cases z : u < t ∧ dbN S0 u = dg
          · rw [if_pos z, if_pos ⟨by omega, z.2⟩]
          · rw [if_neg z, if_neg (fun w => z ⟨by omega, w.2⟩)])
      rw [e0, if_neg hd, Nat.add_zero] at ih2
      exact ih2
    refine G_iload_n (pc := 34) dX9_back_34 rfl rfl ?_
    refine G_aload_n (pc := 35) dX9_back_35 rfl rfl ?_
    refine S_getI (pc := 36) dX9_back_36 fX9_27 rfl (by first | rfl | assumption) rfl ?_
    rw [h3]
    refine N_icmp_ge (pc := 39) (tgt := 92) dX9_back_39 (by decide) (by omega) (fun c39 => absurd c39 (by omega)) (fun c39 => ?_)
    refine G_aload_n (pc := 42) dX9_back_42 rfl rfl ?_
    refine S_getR (pc := 43) (b := 5) dX9_back_43 fX9_23 rfl rfl (by first | rfl | assumption) rfl rfl ?_
    refine G_iload_n (pc := 46) dX9_back_46 rfl rfl ?_
    refine N_aald (pc := 47) (t := 3) (n := 12) (b := 289 + 7 * t) dX9_back_47 (by first | rfl | assumption) (by first | rfl | assumption) (by decide) (by omega) rfl ?_
    refine G_astore (pc := 48) dX9_back_48 (by decide) rfl ?_
    refine G_iload_n (pc := 50) dX9_back_50 rfl rfl ?_
    refine G_iload_n (pc := 51) dX9_back_51 rfl rfl ?_
    refine G_ishr (pc := 52) dX9_back_52 ?_
    rw [shrN (by omega) (by omega)]
    refine G_iconst (pc := 53) (v := nI 1) dX9_back_53 (by decide) ?_
    refine G_iand (pc := 54) dX9_back_54 ?_
    rw [and1]
    refine G_iconst (pc := 55) (v := nI 1) dX9_back_55 (by decide) ?_
    refine N_icmp_ne (pc := 56) (tgt := 86) dX9_back_56 (by decide) (by omega) (fun c56 => ?_) (fun c56 => ?_)
    · skip
      have K := no (fun w => c56 w.2)
      refine N_iinc (pc := 86) dX9_back_86 rfl (by decide) rfl ?_
      refine G_goto (pc := 89) (tgt := 34) dX9_back_89 (by decide) ?_
      exact K _
    · skip
      refine G_aload (pc := 59) dX9_back_59 rfl ?_
      refine S_getI (pc := 61) dX9_back_61 fX9_145 rfl (by first | rfl | assumption) rfl ?_
      rw [hs]
      refine G_iconst (pc := 64) (v := nI 2) dX9_back_64 (by decide) ?_
      refine N_icmp_eq (pc := 65) (tgt := 77) dX9_back_65 (by decide) (by omega) (fun c65 => ?_) (fun c65 => ?_)
      · skip
        have K := yes (Or.inl c65) c56
        refine G_aload (pc := 77) dX9_back_77 rfl ?_
        refine G_iconst (pc := 79) (v := nI 0) dX9_back_79 (by decide) ?_
        refine S_putI (pc := 80) dX9_back_80 fX9_145 (by decide) rfl (by first | rfl | assumption) rfl ?_
        refine N_iinc (pc := 83) dX9_back_83 rfl (by decide) rfl ?_
        refine N_iinc (pc := 86) dX9_back_86 rfl (by decide) rfl ?_
        refine G_goto (pc := 89) (tgt := 34) dX9_back_89 (by decide) ?_
        exact K _
      · skip
        refine G_aload (pc := 68) dX9_back_68 rfl ?_
        refine S_getI (pc := 70) dX9_back_70 fX9_145 rfl (by first | rfl | assumption) rfl ?_
        rw [hs]
        refine G_iconst (pc := 73) (v := nI 3) dX9_back_73 (by decide) ?_
        refine N_icmp_ne (pc := 74) (tgt := 86) dX9_back_74 (by decide) (by omega) (fun c74 => ?_) (fun c74 => ?_)
        · skip
          have K := no (fun w => by omega)
          refine N_iinc (pc := 86) dX9_back_86 rfl (by decide) rfl ?_
          refine G_goto (pc := 89) (tgt := 34) dX9_back_89 (by decide) ?_
          exact K _
        · skip
          have K := yes (Or.inr c74) c56
          refine G_aload (pc := 77) dX9_back_77 rfl ?_
          refine G_iconst (pc := 79) (v := nI 0) dX9_back_79 (by decide) ?_
          refine S_putI (pc := 80) dX9_back_80 fX9_145 (by decide) rfl (by first | rfl | assumption) rfl ?_
          refine N_iinc (pc := 83) dX9_back_83 rfl (by decide) rfl ?_
          refine N_iinc (pc := 86) dX9_back_86 rfl (by decide) rfl ?_
          refine G_goto (pc := 89) (tgt := 34) dX9_back_89 (by decide) ?_
          exact K _
set_option maxRecDepth 100000 in
set_option maxHeartbeats 4000000 in
theorem sX9_back {S0 : ST} (ha : MIa S0) (hb : MIb S0) (hg : MIg S0) (hC : CTh S0 S) (hD : CDg S0 S) (h0 : dgN S0 = 0 → Q (some (aI (-4))) (mk S)) (h : 0 < dgN S0 → ∀ S', Fr bkX (fun _ => False) S S' → S'.1 0 9 = nI (dgN S0 - 1) → BkC S0 S S' (dgN S0) (thN S0) → Q (some (aI (nI (bkC S0 (dgN S0) (thN S0))))) (mk S')) : CT sc mX9_back [aR 0] (mk S) Q := by
  refine S_of (by decide) rfl ?_
  show G sc mX9_back 0 [some (aR 0), none, none, none, none] [] (mk S) Q
  have hth := thB ha
  have hd5 := hg.1.2
  by_cases hd : dgN S0 = 0
  · skip
    refine G_aload_n (pc := 0) dX9_back_0 rfl rfl ?_
    refine S_getI (pc := 1) dX9_back_1 fX9_56 rfl (by first | rfl | assumption) rfl ?_
    rw [hD.1]
    refine N_if_ne (pc := 4) (tgt := 10) dX9_back_4 (by decide) (by omega) (fun c4 => absurd c4 (by omega)) (fun c4 => ?_)
    refine G_bipush (pc := 7) (v := (-4)) dX9_back_7 (by decide) ?_
    refine S_iret (pc := 9) dX9_back_9 rfl ?_
    exact h0 hd
  · obtain ⟨v, v1, v2, v3⟩ := hD.2 (dgN S0 - 1) (by omega)
    have g0 : Fr bkX (fun _ => False) S (upX S 0 9 (nI (dgN S0 - 1))) := Fr.upX (Or.inl ⟨rfl, rfl⟩)
    refine G_aload_n (pc := 0) dX9_back_0 rfl rfl ?_
    refine S_getI (pc := 1) dX9_back_1 fX9_56 rfl (by first | rfl | assumption) rfl ?_
    rw [hD.1]
    refine N_if_ne (pc := 4) (tgt := 10) dX9_back_4 (by decide) (by omega) (fun c4 => ?_) (fun c4 => absurd c4 (by omega))
    refine G_aload_n (pc := 10) dX9_back_10 rfl rfl ?_
    refine G_dup (pc := 11) dX9_back_11 rfl ?_
    refine S_getI (pc := 12) dX9_back_12 fX9_56 rfl (by first | rfl | assumption) rfl ?_
    rw [hD.1]
    refine G_iconst (pc := 15) (v := nI 1) dX9_back_15 (by decide) ?_
    refine N_isub (pc := 16) dX9_back_16 (by omega) ?_
    refine S_putI (pc := 17) dX9_back_17 fX9_56 (by decide) rfl (by first | rfl | assumption) rfl ?_
    refine G_aload_n (pc := 20) dX9_back_20 rfl rfl ?_
    refine S_getR (pc := 21) (b := 281) dX9_back_21 fX9_52 rfl rfl (by first | rfl | assumption) rfl rfl ?_
    refine G_aload_n (pc := 24) dX9_back_24 rfl rfl ?_
    refine S_getI (pc := 25) dX9_back_25 fX9_56 rfl (by first | rfl | assumption) rfl ?_
    rw [show (upX S 0 9 (nI (dgN S0 - 1))).1 0 9 = nI (dgN S0 - 1) from upX_s]
    refine N_iald (pc := 28) dX9_back_28 (by first | rfl | assumption) (by first | rfl | assumption) (by omega) ?_
    rw [show (upX S 0 9 (nI (dgN S0 - 1))).2.1 281 (dgN S0 - 1) = nI v from v2]
    refine G_istore_n (pc := 29) dX9_back_29 rfl (by decide) rfl ?_
    refine G_iconst (pc := 30) (v := nI 0) dX9_back_30 (by decide) ?_
    refine G_istore_n (pc := 31) dX9_back_31 rfl (by decide) rfl ?_
    refine G_iconst (pc := 32) (v := nI 0) dX9_back_32 (by decide) ?_
    refine G_istore_n (pc := 33) dX9_back_33 rfl (by decide) rfl ?_
    refine backC_lp hb hth hg rfl (by omega) v1 (fun t ht q => ⟨fun e => (v3 t ht q).1 (by omega), fun e => (v3 t ht q).2 (by omega)⟩) (fun t ht => (upX_n (by omega)).trans ((hC.2 t (by omega)).1 ht).2.2.1) (fun S' f1 f2 f3 => h (by omega) S' (g0.tr f1) (f2.trans upX_s) (fun u hu => ?_)) (thN S0) 0 _ _ (by omega) ((upX_n (by omega)).trans hC.1) Fr.rf rfl (fun u hu => by rw [if_neg (by omega)])
    have := f3 u hu
    rw [upX_n (by omega)] at this
    exact this
end C27
