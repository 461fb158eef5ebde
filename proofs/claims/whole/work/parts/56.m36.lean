/-! the model: doing -/
/-- a typed piece's bytes can stand in a line -/
def byPc (p : Nat) : Prop := 16777216 ≤ p → ∀ i, i < p / 16777216 → 32 ≤ p / 2 ^ (8 * i) % 256 ∧ p / 2 ^ (8 * i) % 256 ≤ 126
def PbOk (ps : List Nat) : Prop := ∀ p ∈ ps, byPc p
def LBy (l : List Int32) : Prop := ∀ x ∈ l, isBy x
theorem isBy_nI {n : Nat} (h : 32 ≤ n ∧ n ≤ 126) : isBy (nI n) := by
  unfold isBy
  rw [nIt (by omega)]
  omega
theorem typF_by {p : Nat} : ∀ k, (∀ i, i < k → 32 ≤ p / 2 ^ (8 * i) % 256 ∧ p / 2 ^ (8 * i) % 256 ≤ 126) → LBy (typF p k)
  | 0, _ => fun x hx => by cases hx
  | k + 1, h => fun x hx => by
    rcases List.mem_cons.mp hx with rfl | hx
    · exact isBy_nI (h k (by omega))
    · exact typF_by k (fun i hi => h i (by omega)) x hx
theorem turn_by {t : Nat} {c : Int32} (h : isBy c) : isBy (turnI t c) := by
  unfold turnI
  have z : (nI 32).toInt = 32 := rfl
  split
  · rename_i q
    have q2 := of_decide_eq_true q.2
    unfold isBy
    rw [sub_toInt (by rw [z]; omega) (by rw [z]; omega), z]
    omega
  · split
    · rename_i q
      have q2 := of_decide_eq_true q.2
      unfold isBy
      rw [add_toInt (by rw [z]; omega) (by rw [z]; omega), z]
      omega
    · exact h
theorem cutF_by {b : Nat → Int32} {tn n : Nat} (hb : ∀ j, j < n → isBy (b j)) : ∀ d i, i + d ≤ n → LBy (cutF b tn d i)
  | 0, _, _ => fun x hx => by cases hx
  | d + 1, i, h => fun x hx => by
    rcases List.mem_cons.mp hx with rfl | hx
    · exact turn_by (hb i (by omega))
    · exact cutF_by hb d (i + 1) (by omega) x hx
theorem pcL_by {b : Nat → Int32} {n p : Nat} {q : List Int32} (hb : ∀ j, j < n → isBy (b j)) (hp : isPc p) (hy : byPc p) (h : pcL b n p = some q) : LBy q := by
  rcases hp with hp | hp
  · rcases hf : pl b n (p / 120) with _ | f
    · rw [pcL_n1 hp hf] at h; cases h
    · rcases ht : pl b n (p / 3 % 40) with _ | t
      · rw [pcL_n2 hp hf ht] at h; cases h
      · rw [pcL_cut hp hf ht] at h
        have g2 := pl_le ht
        split at h
        · cases h
          exact cutF_by hb _ _ (by omega)
        · cases h
  · rw [pcL_typ hp.1] at h
    cases h
    exact typF_by _ (hy hp.1)
theorem runP_by {b : Nat → Int32} {n : Nat} (hb : ∀ j, j < n → isBy (b j)) : ∀ (ps : List Nat) (q : List Int32), (∀ p ∈ ps, isPc p) → PbOk ps → runP b n ps = some q → LBy q
  | [], q, _, _, h => by cases h; exact fun x hx => by cases hx
  | p :: r, q, h1, h2, h => by
    unfold runP at h
    rcases hp : pcL b n p with _ | l
    · rw [hp] at h; cases h
    · rw [hp] at h
      rcases hr : runP b n r with _ | q2
      · simp only [hr] at h; cases h
      · simp only [hr] at h
        cases h
        intro x hx
        rcases List.mem_append.mp hx with hx | hx
        · exact pcL_by hb (h1 p List.mem_cons_self) (h2 p List.mem_cons_self) hp x hx
        · exact runP_by hb r q2 (fun z hz => h1 z (List.mem_cons_of_mem _ hz)) (fun z hz => h2 z (List.mem_cons_of_mem _ hz)) hr x hx
theorem runP_35 {b : Nat → Int32} {n : Nat} {ps : List Nat} {q : List Int32} (hn : n ≤ 16) (hok : PgOk ps) (h : runP b n ps = some q) : q.length ≤ 35 := by
  obtain ⟨h1, h2, h3, h4⟩ := hok
  have st : ∀ (p : Nat) (r : List Nat) (x : List Int32), isPc p → runP b n (p :: r) = some x → ∃ l y, pcL b n p = some l ∧ runP b n r = some y ∧ x = l ++ y ∧ l.length ≤ (if 16777216 ≤ p then 3 else 16) := by
    intro p r x hp hx
    unfold runP at hx
    rcases hl : pcL b n p with _ | l
    · rw [hl] at hx; cases hx
    · rw [hl] at hx
      rcases hr : runP b n r with _ | y
      · simp only [hr] at hx; cases hx
      · simp only [hr] at hx
        cases hx
        exact ⟨l, y, rfl, rfl, rfl, pc_len hp hn hl⟩
  match ps, h1, h2, h3, h4 with
  | [a], h1, h2, _, _ =>
    obtain ⟨l, y, e1, e2, e3, e4⟩ := st a [] q (h2 a (by simp)) h
    cases e2
    rw [e3]
    simp only [List.append_nil]
    split at e4 <;> omega
  | [a, c], h1, h2, _, _ =>
    obtain ⟨l, y, e1, e2, e3, e4⟩ := st a [c] q (h2 a (by simp)) h
    obtain ⟨l2, y2, f1, f2, f3, f4⟩ := st c [] y (h2 c (by simp)) e2
    cases f2
    rw [e3, f3]
    simp only [List.append_nil, List.length_append]
    split at e4 <;> split at f4 <;> omega
  | [a, c, d], h1, h2, _, _ =>
    obtain ⟨l, y, e1, e2, e3, e4⟩ := st a [c, d] q (h2 a (by simp)) h
    obtain ⟨l2, y2, f1, f2, f3, f4⟩ := st c [d] y (h2 c (by simp)) e2
    obtain ⟨l3, y3, g1, g2, g3, g4⟩ := st d [] y2 (h2 d (by simp)) f2
    cases g2
    have h5 := h1.2.2.2.2.1
    rw [e3, f3, g3]
    simp only [List.append_nil, List.length_append]
    split at e4 <;> split at f4 <;> split at g4 <;> simp_all <;> omega
theorem getD_memI {l : List Int32} {i : Nat} (h : i < l.length) : l.getD i 0 ∈ l := by
  rw [List.getD_eq_getElem?_getD, List.getElem?_eq_getElem h]
  exact List.getElem_mem h
/-- how many of the first t things are untouched -/
def cuN (S : ST) : Nat → Nat
  | 0 => 0
  | t + 1 => cuN S t + (if stN S t = 0 then 1 else 0)
/-- a doing of n things takes this one -/
def tcB (S : ST) (n t : Nat) : Bool := decide (stN S t = 0 ∧ cuN S t < n)
/-- what stands there when it is done -/
def enL (S : ST) (u : Nat) (ps : List Nat) : List Int32 := if oddB S u ps = true then [] else (runP (lnB S u) (szN S u) ps).getD []
def DgT (S S' : ST) (ps : List Nat) (dg u : Nat) : Prop := S'.2.1 392 u = nI (if oddB S u ps = true then 3 else 2) ∧ S'.2.1 395 u = nI dg ∧ S'.2.1 394 u = nI (enL S u ps).length ∧ ∀ i, i < (enL S u ps).length → S'.2.1 393 (36 * u + i) = (enL S u ps).getD i 0
def DgN (S S' : ST) (u : Nat) : Prop := S'.2.1 392 u = S.2.1 392 u ∧ S'.2.1 395 u = S.2.1 395 u ∧ S'.2.1 394 u = S.2.1 394 u ∧ ∀ i, i < 36 → S'.2.1 393 (36 * u + i) = S.2.1 393 (36 * u + i)
def DgIs (S S' : ST) (n : Nat) (ps : List Nat) (dg t : Nat) : Prop := ∀ u, u < 12 → (u < t → tcB S n u = true → DgT S S' ps dg u) ∧ (¬ (u < t ∧ tcB S n u = true) → DgN S S' u)
def dnC (S : ST) (n : Nat) (ps : List Nat) : Nat → Nat
  | 0 => 0
  | t + 1 => dnC S n ps t + (if tcB S n t = true ∧ oddB S t ps = false then 1 else 0)
theorem dnC_le (S : ST) (n : Nat) (ps : List Nat) : ∀ t, dnC S n ps t ≤ t
  | 0 => Nat.le_refl _
  | t + 1 => by
    have := dnC_le S n ps t
    unfold dnC
    split <;> omega
theorem cuN_le (S : ST) : ∀ t, cuN S t ≤ t
  | 0 => Nat.le_refl _
  | t + 1 => by
    have := cuN_le S t
    unfold cuN
    split <;> omega
theorem cuN_mono (S : ST) : ∀ d t, cuN S t ≤ cuN S (t + d)
  | 0, _ => Nat.le_refl _
  | d + 1, t => by
    have h1 := cuN_mono S d t
    have h2 : cuN S (t + (d + 1)) = cuN S (t + d) + (if stN S (t + d) = 0 then 1 else 0) := rfl
    omega
abbrev gX (a j : Nat) : Prop := a = 389 ∧ (j = 12 ∨ j = 27)
abbrev gA' (a : Nat) : Prop := a = 397 ∨ a = 407 ∨ (392 ≤ a ∧ a ≤ 395)
theorem gR {S S' : ST} (h : Fr rX rA S S') : Fr gX gA' S S' := h.mono (fun a j q => q) (fun a q => by omega)
/-- things as they were, but for what is done -/
theorem dg_stN {S S' : ST} {n dg t : Nat} {ps : List Nat} (hD : DgIs S S' n ps dg t) {u : Nat} (hu : u < 12) : stN S' u = if u < t ∧ tcB S n u = true then (if oddB S u ps = true then 3 else 2) else stN S u := by
  have q := hD u hu
  by_cases h : u < t ∧ tcB S n u = true
  · rw [if_pos h]
    have := (q.1 h.1 h.2).1
    unfold stN
    rw [this]
    split <;> rfl
  · rw [if_neg h]
    unfold stN
    rw [(q.2 h).1]
theorem dg_knF {S S' : ST} {n dg t : Nat} {ps sh : List Nat} (hb : MIb S) (h12 : thN S ≤ 12) (hD : DgIs S S' n ps dg t) : ∀ T, T ≤ thN S → knF S' sh T = knF S sh T := by
  intro T
  induction T with
  | zero => intro _; rfl
  | succ T ihT =>
    intro hT
    have h1 := ihT (by omega)
    have h2 := dg_stN hD (show T < 12 by omega)
    have e : (decide (stN S' T = 1) && decide (shp (enB S' T) (esN S' T) = sh)) = (decide (stN S T = 1) && decide (shp (enB S T) (esN S T) = sh)) := by
      by_cases h : T < t ∧ tcB S n T = true
      · rw [if_pos h] at h2
        have h3 := of_decide_eq_true h.2
        rw [h2, h3.1, decide_eq_false (show ¬ (0 : Nat) = 1 by decide), decide_eq_false (by split <;> omega), Bool.false_and, Bool.false_and]
      · rw [if_neg h] at h2
        have q := (hD T (by omega)).2 h
        have h4 := (hb T (by omega)).2.1.2
        have h5 : esN S' T = esN S T := by unfold esN; rw [q.2.2.1]
        rw [h2, h5, shp_ext (f := enB S' T) (g := enB S T) (esN S T) (fun i hi => q.2.2.2 i (by omega))]
    unfold knF
    rw [h1, e]
theorem enL_35 {S : ST} {ps : List Nat} {u : Nat} (ha : MIa S) (hu : u < thN S) (hok : PgOk ps) : (enL S u ps).length ≤ 35 := by
  unfold enL
  split
  · simp
  · rcases hr : runP (lnB S u) (szN S u) ps with _ | l
    · simp
    · exact runP_35 (ha.2 u hu).2.2.1 hok hr
theorem enL_by {S : ST} {ps : List Nat} {u : Nat} (ha : MIa S) (hu : u < thN S) (hok : PgOk ps) (hpb : PbOk ps) : LBy (enL S u ps) := by
  unfold enL
  split
  · exact fun x hx => by cases hx
  · rcases hr : runP (lnB S u) (szN S u) ps with _ | l
    · exact fun x hx => by cases hx
    · exact runP_by (ha.2 u hu).2.2.2 ps l hok.2.1 hpb hr
theorem MIb_dg {S S' : ST} {n dg t : Nat} {ps : List Nat} (ha : MIa S) (hb : MIb S) (hth : thN S' = thN S) (hok : PgOk ps) (hpb : PbOk ps) (hD : DgIs S S' n ps dg t) : MIb S' := by
  intro u hu
  rw [hth] at hu
  have h12 := ha.1.2
  have q := hD u (by omega)
  have hs := dg_stN hD (show u < 12 by omega)
  by_cases h : u < t ∧ tcB S n u = true
  · rw [if_pos h] at hs
    obtain ⟨q1, q2, q3, q4⟩ := q.1 h.1 h.2
    have l35 := enL_35 ha hu hok
    have e5 : esN S' u = (enL S u ps).length := by unfold esN; rw [q3, nI_clamp (by omega)]
    have s3 : stN S' u = 2 ∨ stN S' u = 3 := by rw [hs]; split <;> omega
    refine ⟨⟨by rw [hs]; exact q1, by omega⟩, ⟨by rw [e5]; exact q3, by omega⟩, fun z => by omega, fun _ j hj => ?_⟩
    rw [e5] at hj
    rw [q4 j hj]
    exact enL_by ha hu hok hpb _ (getD_memI hj)
  · rw [if_neg h] at hs
    obtain ⟨q1, q2, q3, q4⟩ := q.2 h
    have w := hb u hu
    have e5 : esN S' u = esN S u := by unfold esN; rw [q3]
    rw [hs, e5]
    exact ⟨⟨q1.trans w.1.1, w.1.2⟩, ⟨q3.trans w.2.1.1, w.2.1.2⟩, w.2.2.1, fun z j hj => by rw [q4 j (by have := w.2.1.2; omega)]; exact w.2.2.2 z j hj⟩
section M36
variable {sc : SC} {S : ST} {Q : Option AV → HM → Prop}
set_option maxRecDepth 100000 in
set_option maxHeartbeats 4000000 in
theorem doing_cp {v : Int32} {n0 left done t : Nat} {o6 : Int32} {l : List Int32} (ht : t < 12) (hes : S.2.1 394 t = nI l.length) (hlen : l.length ≤ 35) :
    ∀ (d j : Nat), j + d = l.length → G sc mX10_doing 166 [some (aR 389), some (aI (nI n0)), some (aI v), some (aI (nI left)), some (aI (nI done)), some (aI (nI t)), some (aI o6), some (aI (nI l.length))] [] (mk (upR S 393 (36 * t) l.length (S.2.1 397))) Q →
      G sc mX10_doing 128 [some (aR 389), some (aI (nI n0)), some (aI v), some (aI (nI left)), some (aI (nI done)), some (aI (nI t)), some (aI o6), some (aI (nI j))] [] (mk (upR S 393 (36 * t) j (S.2.1 397))) Q := by
  intro d
  induction d with
  | zero =>
    intro j hj h
    have e : j = l.length := by omega
    subst e
    refine G_iload (pc := 128) dX10_doing_128 rfl ?_
    refine G_aload_n (pc := 130) dX10_doing_130 rfl rfl ?_
    refine S_getR (pc := 131) (b := 394) dX10_doing_131 fX10_22 rfl rfl (by first | rfl | assumption) rfl rfl ?_
    refine G_iload (pc := 134) dX10_doing_134 rfl ?_
    refine N_iald (pc := 136) dX10_doing_136 (by first | rfl | assumption) (by first | rfl | assumption) (by omega) ?_
    rw [show (upR S 393 (36 * t) l.length (S.2.1 397)).2.1 394 t = nI l.length from (upR_n (by omega)).trans hes]
    refine N_icmp_ge (pc := 137) (tgt := 166) dX10_doing_137 (by decide) (by omega) (fun c137 => ?_) (fun c137 => absurd c137 (by omega))
    exact h
  | succ d ih =>
    intro j hj h
    refine G_iload (pc := 128) dX10_doing_128 rfl ?_
    refine G_aload_n (pc := 130) dX10_doing_130 rfl rfl ?_
    refine S_getR (pc := 131) (b := 394) dX10_doing_131 fX10_22 rfl rfl (by first | rfl | assumption) rfl rfl ?_
    refine G_iload (pc := 134) dX10_doing_134 rfl ?_
    refine N_iald (pc := 136) dX10_doing_136 (by first | rfl | assumption) (by first | rfl | assumption) (by omega) ?_
    rw [show (upR S 393 (36 * t) j (S.2.1 397)).2.1 394 t = nI l.length from (upR_n (by omega)).trans hes]
    refine N_icmp_ge (pc := 137) (tgt := 166) dX10_doing_137 (by decide) (by omega) (fun c137 => absurd c137 (by omega)) (fun c137 => ?_)
    refine G_aload_n (pc := 140) dX10_doing_140 rfl rfl ?_
    refine S_getR (pc := 141) (b := 393) dX10_doing_141 fX10_19 rfl rfl (by first | rfl | assumption) rfl rfl ?_
    refine G_bipush (pc := 144) (v := nI 36) dX10_doing_144 (by decide) ?_
    refine G_iload (pc := 146) dX10_doing_146 rfl ?_
    refine N_imul (pc := 148) dX10_doing_148 ?_
    refine G_iload (pc := 149) dX10_doing_149 rfl ?_
    refine N_iadd (pc := 151) dX10_doing_151 ?_
    refine G_aload_n (pc := 152) dX10_doing_152 rfl rfl ?_
    refine S_getR (pc := 153) (b := 397) dX10_doing_153 fX10_31 rfl rfl (by first | rfl | assumption) rfl rfl ?_
    refine G_iload (pc := 156) dX10_doing_156 rfl ?_
    refine N_iald (pc := 158) dX10_doing_158 (by first | rfl | assumption) (by first | rfl | assumption) (by omega) ?_
    rw [show (upR S 393 (36 * t) j (S.2.1 397)).2.1 397 j = S.2.1 397 j from upR_n (by omega)]
    refine N_iast (pc := 159) dX10_doing_159 (by first | rfl | assumption) (by first | rfl | assumption) (by omega) ?_
    rw [upR_s]
    refine N_iinc (pc := 160) dX10_doing_160 rfl (by decide) rfl ?_
    refine G_goto (pc := 163) (tgt := 128) dX10_doing_163 (by decide) ?_
    exact ih (j + 1) (by omega) h
set_option maxRecDepth 100000 in
set_option maxHeartbeats 4000000 in
theorem doing_lp {S0 : ST} {n dg : Nat} {ps : List Nat} {v : Int32} (ha : MIa S0) (hb : MIb S0) (hok : PgOk ps) (hpb : PbOk ps) (hn : n ≤ 12) :
    ∀ (d t : Nat) (S : ST) (o6 o7 : Option AV), t + d = thN S0 → Fr gX gA' S0 S → S.1 389 7 = nI dg → PrIs S 404 0 ps → DgIs S0 S n ps dg t →
      (∀ S', Fr gX gA' S0 S' → DgIs S0 S' n ps dg (thN S0) → Q (some (aI (nI (dnC S0 n ps (thN S0))))) (mk S')) →
      G sc mX10_doing 43 [some (aR 389), some (aI (nI n)), some (aI v), some (aI (nI (n - cuN S0 t))), some (aI (nI (dnC S0 n ps t))), some (aI (nI t)), o6, o7] [] (mk S) Q := by
  have h12 := ha.1.2
  intro d
  induction d with
  | zero =>
    intro t S o6 o7 ht hF hdg hp hD h
    have e : t = thN S0 := by omega
    subst e
    have hc := cuN_le S0 (thN S0)
    have hdn := dnC_le S0 n ps (thN S0)
    refine G_iload (pc := 43) dX10_doing_43 rfl ?_
    refine G_aload_n (pc := 45) dX10_doing_45 rfl rfl ?_
    refine S_getI (pc := 46) dX10_doing_46 fX10_80 rfl (by first | rfl | assumption) rfl ?_
    rw [(hF.1 389 0 (by omega)).trans ha.1.1]
    refine N_icmp_ge (pc := 49) (tgt := 187) dX10_doing_49 (by decide) (by omega) (fun c49 => ?_) (fun c49 => absurd c49 (by omega))
    refine G_iload (pc := 187) dX10_doing_187 rfl ?_
    refine S_iret (pc := 189) dX10_doing_189 rfl ?_
    exact h S hF hD
  | succ d ih =>
    intro t S o6 o7 ht hF hdg hp hD h
    have hdn := dnC_le S0 n ps t
    have hs := ha.2 t (by omega)
    have hst := hb t (by omega)
    have hth : thN S = thN S0 := by unfold thN; rw [hF.1 389 0 (by omega)]
    have hDt := (hD t (by omega)).2 (by omega)
    have s2 : S.2.1 392 t = nI (stN S0 t) := hDt.1.trans hst.1.1
    have c0 : cuN S0 (t + 1) = cuN S0 t + (if stN S0 t = 0 then 1 else 0) := rfl
    have d0 : dnC S0 n ps (t + 1) = dnC S0 n ps t + (if tcB S0 n t = true ∧ oddB S0 t ps = false then 1 else 0) := rfl
    -- this thing isn't taken: the next
    have skp : tcB S0 n t = false → DgIs S0 S n ps dg (t + 1) := by
      intro hz u hu
      have q := hD u hu
      by_cases e : u = t
      · subst e
        exact ⟨fun _ z => absurd z (by rw [hz]; decide), fun _ => q.2 (by omega)⟩
      · exact ⟨fun z1 z2 => q.1 (by omega) z2, fun z => q.2 (fun y => z ⟨by omega, y.2⟩)⟩
    by_cases hleft : n - cuN S0 t = 0
    · -- all are done
      have full : ∀ T, t ≤ T → tcB S0 n T = false := fun T hT => by
        have := cuN_mono S0 (T - t) t
        rw [show t + (T - t) = T by omega] at this
        exact decide_eq_false (by omega)
      have hDe : DgIs S0 S n ps dg (thN S0) := by
        intro u hu
        have q := hD u hu
        refine ⟨fun z1 z2 => ?_, fun z => q.2 (fun y => z ⟨by omega, y.2⟩)⟩
        by_cases e : u < t
        · exact q.1 e z2
        · rw [full u (by omega)] at z2; cases z2
      have hde : ∀ k, dnC S0 n ps (t + k) = dnC S0 n ps t := by
        intro k
        induction k with
        | zero => rfl
        | succ k ihk =>
          show dnC S0 n ps (t + k) + (if tcB S0 n (t + k) = true ∧ oddB S0 (t + k) ps = false then 1 else 0) = _
          rw [if_neg (fun q => by rw [full (t + k) (by omega)] at q; exact absurd q.1 (by decide)), ihk]
          rfl
      have hde2 : dnC S0 n ps (thN S0) = dnC S0 n ps t := by rw [← ht]; exact hde (d + 1)
      rw [hleft]
      refine G_iload (pc := 43) dX10_doing_43 rfl ?_
      refine G_aload_n (pc := 45) dX10_doing_45 rfl rfl ?_
      refine S_getI (pc := 46) dX10_doing_46 fX10_80 rfl (by first | rfl | assumption) rfl ?_
      rw [(hF.1 389 0 (by omega)).trans ha.1.1]
      refine N_icmp_ge (pc := 49) (tgt := 187) dX10_doing_49 (by decide) (by omega) (fun c49 => absurd c49 (by omega)) (fun c49 => ?_)
      refine G_iload_n (pc := 52) dX10_doing_52 rfl rfl ?_
      refine N_if_le (pc := 53) (tgt := 187) dX10_doing_53 (by decide) (by omega) (fun c53 => ?_) (fun c53 => absurd c53 (by omega))
      refine G_iload (pc := 187) dX10_doing_187 rfl ?_
      refine S_iret (pc := 189) dX10_doing_189 rfl ?_
      exact q_i (h S hF hDe) (by rw [hde2])
    · by_cases hz : stN S0 t = 0
      · -- it is taken
        have htc : tcB S0 n t = true := decide_eq_true ⟨hz, by omega⟩
        obtain ⟨m, hm⟩ : ∃ m, n - cuN S0 t = m + 1 := ⟨n - cuN S0 t - 1, by omega⟩
        have hm2 : m = n - cuN S0 (t + 1) := by rw [c0, if_pos hz]; omega
        rw [hm]
        have l35 := enL_35 ha (show t < thN S0 by omega) hok
        have F2 : Fr gX gA' S0 (upI S 395 t (nI dg)) := hF.tr (Fr.upI (by omega))
        have th2 : thN (upI S 395 t (nI dg)) = thN S0 := hth
        have ln2 : lnB (upI S 395 t (nI dg)) t = lnB S0 t := by funext j; exact F2.2.1 390 (by omega) _
        have sz2 : szN (upI S 395 t (nI dg)) t = szN S0 t := by unfold szN; rw [F2.2.1 391 (by omega)]
        have ha2 : MIa (upI S 395 t (nI dg)) := MIa_of ha (F2.1 389 0 (by omega)) (F2.2.1 391 (by omega)) (F2.2.1 390 (by omega))
        have hbS : MIb S := MIb_dg ha hb hth hok hpb hD
        have r2 : ∀ a, a = 392 ∨ a = 393 ∨ a = 394 → ∀ i, (upI S 395 t (nI dg)).2.1 a i = S.2.1 a i := fun a ha i => upI_n (by omega)
        have hb2 : MIb (upI S 395 t (nI dg)) := by
          intro u hu
          have q := hbS u hu
          simp only [stN, esN, r2 392 (by omega), r2 393 (by omega), r2 394 (by omega)] at q ⊢
          exact q
        have kn2 : ∀ sh T, T ≤ thN S0 → knF (upI S 395 t (nI dg)) sh T = knF S0 sh T := by
          intro sh T hT
          rw [← dg_knF hb h12 hD T hT]
          clear hT
          induction T with
          | zero => rfl
          | succ T ihT =>
            unfold knF
            rw [ihT]
            have en2 : enB (upI S 395 t (nI dg)) T = enB S T := by funext j; exact r2 393 (by omega) _
            have st2 : stN (upI S 395 t (nI dg)) T = stN S T := by unfold stN; rw [r2 392 (by omega)]
            have es2 : esN (upI S 395 t (nI dg)) T = esN S T := by unfold esN; rw [r2 394 (by omega)]
            rw [en2, st2, es2]
        have K : ∀ (S3 : ST) (b : Bool), b = oddB S0 t ps → Fr rX rA (upI S 395 t (nI dg)) S3 → (b = false → OutIs S3 (enL S0 t ps)) → G sc mX10_doing 86 [some (aR 389), some (aI (nI n)), some (aI v), some (aI (nI m)), some (aI (nI (dnC S0 n ps t))), some (aI (nI t)), o6, o7] [aI (bI b)] (mk S3) Q := by
          intro S3 b hbo k1 k2
          have F3 := F2.tr (gR k1)
          -- what stands behind the stores
          have fin : ∀ (S4 : ST) (x : Nat), (b = true → x = 3) → (b = false → x = 2) → S4 = upI (upI S3 392 t (nI x)) 394 t (nI (enL S0 t ps).length) → (b = false → OutIs S3 (enL S0 t ps)) → ∀ o7, G sc mX10_doing 166 [some (aR 389), some (aI (nI n)), some (aI v), some (aI (nI m)), some (aI (nI (dnC S0 n ps t))), some (aI (nI t)), some (aI (bI b)), o7] [] (mk (upR S4 393 (36 * t) (enL S0 t ps).length (S4.2.1 397))) Q := by
            intro S4 x hx1 hx0 e4 ho o7
            have hF5 : Fr gX gA' S0 (upR S4 393 (36 * t) (enL S0 t ps).length (S4.2.1 397)) := by
              rw [e4]
              exact ((F3.tr (Fr.upI (by omega))).tr (Fr.upI (by omega))).tr (Fr.upR (by omega))
            have hd5 : (upR S4 393 (36 * t) (enL S0 t ps).length (S4.2.1 397)).1 389 7 = nI dg := by
              rw [e4]
              exact (k1.1 389 7 (by omega)).trans hdg
            have hp5 : PrIs (upR S4 393 (36 * t) (enL S0 t ps).length (S4.2.1 397)) 404 0 ps := by
              refine PrIs_k hp (fun i _ => ?_)
              rw [upR_n (by omega), e4, upI_n (by omega), upI_n (by omega), k1.2.1 404 (by omega), upI_n (by omega)]
            have hD5 : DgIs S0 (upR S4 393 (36 * t) (enL S0 t ps).length (S4.2.1 397)) n ps dg (t + 1) := by
              intro u hu
              have q := hD u hu
              by_cases e : u = t
              · subst e
                refine ⟨fun _ _ => ⟨?_, ?_, ?_, ?_⟩, fun z => absurd ⟨by omega, htc⟩ z⟩
                · rw [upR_n (by omega), e4, upI_n (by omega), upI_s, ← hbo]
                  cases b with
                  | true => rw [hx1 rfl]; rfl
                  | false => rw [hx0 rfl]; rfl
                · rw [upR_n (by omega), e4, upI_n (by omega), upI_n (by omega), k1.2.1 395 (by omega), upI_s]
                · rw [upR_n (by omega), e4, upI_s]
                · intro i hi
                  rw [upR_in (by omega), show 36 * u + i - 36 * u = i by omega, e4, upI_n (by omega), upI_n (by omega)]
                  have hbf : b = false := by
                    cases b with
                    | false => rfl
                    | true =>
                      exfalso
                      unfold enL at hi
                      rw [← hbo, if_pos rfl] at hi
                      simp at hi
                  exact (ho hbf).2 i hi
              · have e1 : ∀ a, a = 392 ∨ a = 394 ∨ a = 395 → (upR S4 393 (36 * t) (enL S0 t ps).length (S4.2.1 397)).2.1 a u = S.2.1 a u := by
                  intro a haa
                  rw [upR_n (by omega), e4, upI_n (by omega), upI_n (by omega), k1.2.1 a (by omega), upI_n (by omega)]
                have e2 : ∀ i, i < 36 → (upR S4 393 (36 * t) (enL S0 t ps).length (S4.2.1 397)).2.1 393 (36 * u + i) = S.2.1 393 (36 * u + i) := by
                  intro i hi
                  rw [upR_n (by omega), e4, upI_n (by omega), upI_n (by omega), k1.2.1 393 (by omega), upI_n (by omega)]
                refine ⟨fun z1 z2 => ?_, fun z => ?_⟩
                · obtain ⟨q1, q2, q3, q4⟩ := q.1 (by omega) z2
                  have hul : (enL S0 u ps).length ≤ 35 := enL_35 ha (by omega) hok
                  exact ⟨(e1 392 (by omega)).trans q1, (e1 395 (by omega)).trans q2, (e1 394 (by omega)).trans q3, fun i hi => (e2 i (by omega)).trans (q4 i hi)⟩
                · obtain ⟨q1, q2, q3, q4⟩ := q.2 (fun y => z ⟨by omega, y.2⟩)
                  exact ⟨(e1 392 (by omega)).trans q1, (e1 395 (by omega)).trans q2, (e1 394 (by omega)).trans q3, fun i hi => (e2 i hi).trans (q4 i hi)⟩
            cases b with
            | true =>
              rw [if_neg (fun q => by rw [← hbo] at q; exact absurd q.2 (by decide))] at d0
              refine G_iload (pc := 166) dX10_doing_166 rfl ?_
              refine G_iload (pc := 168) dX10_doing_168 rfl ?_
              refine B_if_eq (pc := 170) (tgt := 177) dX10_doing_170 (by decide) (fun c170 => absurd c170 (by decide)) (fun c170 => ?_)
              refine G_iconst (pc := 173) (v := nI 0) dX10_doing_173 (by decide) ?_
              refine G_goto (pc := 174) (tgt := 178) dX10_doing_174 (by decide) ?_
              refine N_iadd (pc := 178) dX10_doing_178 ?_
              refine G_istore (pc := 179) dX10_doing_179 (by decide) rfl ?_
              refine N_iinc (pc := 181) dX10_doing_181 rfl (by decide) rfl ?_
              refine G_goto (pc := 184) (tgt := 43) dX10_doing_184 (by decide) ?_
              rw [← d0, hm2]
              exact ih (t + 1) _ _ _ (by omega) hF5 hd5 hp5 hD5 h
            | false =>
              rw [if_pos ⟨htc, hbo.symm⟩] at d0
              refine G_iload (pc := 166) dX10_doing_166 rfl ?_
              refine G_iload (pc := 168) dX10_doing_168 rfl ?_
              refine B_if_eq (pc := 170) (tgt := 177) dX10_doing_170 (by decide) (fun c170 => ?_) (fun c170 => absurd c170 (by decide))
              refine G_iconst (pc := 177) (v := nI 1) dX10_doing_177 (by decide) ?_
              refine N_iadd (pc := 178) dX10_doing_178 ?_
              refine G_istore (pc := 179) dX10_doing_179 (by decide) rfl ?_
              refine N_iinc (pc := 181) dX10_doing_181 rfl (by decide) rfl ?_
              refine G_goto (pc := 184) (tgt := 43) dX10_doing_184 (by decide) ?_
              rw [← d0, hm2]
              exact ih (t + 1) _ _ _ (by omega) hF5 hd5 hp5 hD5 h
          cases b with
          | true =>
            have hl0 : enL S0 t ps = [] := by unfold enL; rw [← hbo, if_pos rfl]
            have fin := fin _ 3 (fun _ => rfl) (fun z => by cases z) rfl k2
            rw [hl0] at fin
            refine G_istore (pc := 86) dX10_doing_86 (by decide) rfl ?_
            refine G_aload_n (pc := 88) dX10_doing_88 rfl rfl ?_
            refine S_getR (pc := 89) (b := 392) dX10_doing_89 fX10_16 rfl rfl (by first | rfl | assumption) rfl rfl ?_
            refine G_iload (pc := 92) dX10_doing_92 rfl ?_
            refine G_iload (pc := 94) dX10_doing_94 rfl ?_
            refine B_if_eq (pc := 96) (tgt := 103) dX10_doing_96 (by decide) (fun c96 => absurd c96 (by decide)) (fun c96 => ?_)
            refine G_iconst (pc := 99) (v := nI 3) dX10_doing_99 (by decide) ?_
            refine G_goto (pc := 100) (tgt := 104) dX10_doing_100 (by decide) ?_
            refine N_iast (pc := 104) dX10_doing_104 (by first | rfl | assumption) (by first | rfl | assumption) (by omega) ?_
            refine G_aload_n (pc := 105) dX10_doing_105 rfl rfl ?_
            refine S_getR (pc := 106) (b := 394) dX10_doing_106 fX10_22 rfl rfl (by first | rfl | assumption) rfl rfl ?_
            refine G_iload (pc := 109) dX10_doing_109 rfl ?_
            refine G_iload (pc := 111) dX10_doing_111 rfl ?_
            refine B_if_eq (pc := 113) (tgt := 120) dX10_doing_113 (by decide) (fun c113 => absurd c113 (by decide)) (fun c113 => ?_)
            refine G_iconst (pc := 116) (v := nI 0) dX10_doing_116 (by decide) ?_
            refine G_goto (pc := 117) (tgt := 124) dX10_doing_117 (by decide) ?_
            refine N_iast (pc := 124) dX10_doing_124 (by first | rfl | assumption) (by first | rfl | assumption) (by omega) ?_
            refine G_iconst (pc := 125) (v := nI 0) dX10_doing_125 (by decide) ?_
            refine G_istore (pc := 126) dX10_doing_126 (by decide) rfl ?_
            have e0 : mk (upI (upI S3 392 t (nI 3)) 394 t (nI 0)) = mk (upR (upI (upI S3 392 t (nI 3)) 394 t (nI 0)) 393 (36 * t) 0 ((upI (upI S3 392 t (nI 3)) 394 t (nI 0)).2.1 397)) := by rw [upR_0]
            rw [e0]
            exact doing_cp (l := []) (by omega) upI_s (by simp) 0 0 rfl (fin _)
          | false =>
            have fin := fin _ 2 (fun z => by cases z) (fun _ => rfl) rfl k2
            refine G_istore (pc := 86) dX10_doing_86 (by decide) rfl ?_
            refine G_aload_n (pc := 88) dX10_doing_88 rfl rfl ?_
            refine S_getR (pc := 89) (b := 392) dX10_doing_89 fX10_16 rfl rfl (by first | rfl | assumption) rfl rfl ?_
            refine G_iload (pc := 92) dX10_doing_92 rfl ?_
            refine G_iload (pc := 94) dX10_doing_94 rfl ?_
            refine B_if_eq (pc := 96) (tgt := 103) dX10_doing_96 (by decide) (fun c96 => ?_) (fun c96 => absurd c96 (by decide))
            refine G_iconst (pc := 103) (v := nI 2) dX10_doing_103 (by decide) ?_
            refine N_iast (pc := 104) dX10_doing_104 (by first | rfl | assumption) (by first | rfl | assumption) (by omega) ?_
            refine G_aload_n (pc := 105) dX10_doing_105 rfl rfl ?_
            refine S_getR (pc := 106) (b := 394) dX10_doing_106 fX10_22 rfl rfl (by first | rfl | assumption) rfl rfl ?_
            refine G_iload (pc := 109) dX10_doing_109 rfl ?_
            refine G_iload (pc := 111) dX10_doing_111 rfl ?_
            refine B_if_eq (pc := 113) (tgt := 120) dX10_doing_113 (by decide) (fun c113 => ?_) (fun c113 => absurd c113 (by decide))
            refine G_aload_n (pc := 120) dX10_doing_120 rfl rfl ?_
            refine S_getI (pc := 121) dX10_doing_121 fX10_150 rfl (by first | rfl | assumption) rfl ?_
            rw [show (upI S3 392 t (nI 2)).1 389 12 = nI (enL S0 t ps).length from (k2 rfl).1]
            refine N_iast (pc := 124) dX10_doing_124 (by first | rfl | assumption) (by first | rfl | assumption) (by omega) ?_
            refine G_iconst (pc := 125) (v := nI 0) dX10_doing_125 (by decide) ?_
            refine G_istore (pc := 126) dX10_doing_126 (by decide) rfl ?_
            have e0 : mk (upI (upI S3 392 t (nI 2)) 394 t (nI (enL S0 t ps).length)) = mk (upR (upI (upI S3 392 t (nI 2)) 394 t (nI (enL S0 t ps).length)) 393 (36 * t) 0 ((upI (upI S3 392 t (nI 2)) 394 t (nI (enL S0 t ps).length)).2.1 397)) := by rw [upR_0]
            rw [e0]
            exact doing_cp (l := enL S0 t ps) (by omega) upI_s l35 (enL S0 t ps).length 0 (by omega) (fin _)
        refine G_iload (pc := 43) dX10_doing_43 rfl ?_
        refine G_aload_n (pc := 45) dX10_doing_45 rfl rfl ?_
        refine S_getI (pc := 46) dX10_doing_46 fX10_80 rfl (by first | rfl | assumption) rfl ?_
        rw [(hF.1 389 0 (by omega)).trans ha.1.1]
        refine N_icmp_ge (pc := 49) (tgt := 187) dX10_doing_49 (by decide) (by omega) (fun c49 => absurd c49 (by omega)) (fun c49 => ?_)
        refine G_iload_n (pc := 52) dX10_doing_52 rfl rfl ?_
        refine N_if_le (pc := 53) (tgt := 187) dX10_doing_53 (by decide) (by omega) (fun c53 => absurd c53 (by omega)) (fun c53 => ?_)
        refine G_aload_n (pc := 56) dX10_doing_56 rfl rfl ?_
        refine S_getR (pc := 57) (b := 392) dX10_doing_57 fX10_16 rfl rfl (by first | rfl | assumption) rfl rfl ?_
        refine G_iload (pc := 60) dX10_doing_60 rfl ?_
        refine N_iald (pc := 62) dX10_doing_62 (by first | rfl | assumption) (by first | rfl | assumption) (by omega) ?_
        rw [s2]
        refine N_if_ne (pc := 63) (tgt := 181) dX10_doing_63 (by decide) (by omega) (fun c63 => absurd c63 (by omega)) (fun c63 => ?_)
        refine N_idec (pc := 66) dX10_doing_66 rfl (by decide) rfl ?_
        refine G_aload_n (pc := 69) dX10_doing_69 rfl rfl ?_
        refine S_getR (pc := 70) (b := 395) dX10_doing_70 fX10_25 rfl rfl (by first | rfl | assumption) rfl rfl ?_
        refine G_iload (pc := 73) dX10_doing_73 rfl ?_
        refine G_aload_n (pc := 75) dX10_doing_75 rfl rfl ?_
        refine S_getI (pc := 76) dX10_doing_76 fX10_278 rfl (by first | rfl | assumption) rfl ?_
        rw [hdg]
        refine N_iast (pc := 79) dX10_doing_79 (by first | rfl | assumption) (by first | rfl | assumption) (by omega) ?_
        refine G_aload_n (pc := 80) dX10_doing_80 rfl rfl ?_
        refine G_iload (pc := 81) dX10_doing_81 rfl ?_
        refine S_callV (av := [_]) (pc := 83) (z := mX10_isOdd) (ci := 9) dX10_doing_83 zX10_isOdd lX10_doing_269 rfl (by first | rfl | assumption) rfl rfl (sX10_isOdd (ps := ps) ha2 hb2 (by rw [th2]; omega) (PrIs_k hp (fun i _ => upI_n (by omega))) hok (fun k1 S3 k2 => ⟨_, rfl, ?_⟩) (fun l k1 S3 k2 k3 => ⟨_, rfl, ?_⟩))
        · rw [ln2, sz2] at k1
          exact K S3 true (by unfold oddB; rw [k1]) k2 (fun z => by cases z)
        rw [ln2, sz2] at k1
        refine K S3 _ (by unfold oddB; rw [k1, th2, kn2 _ _ (Nat.le_refl _)]) k2 (fun z => ?_)
        rw [th2, kn2 _ _ (Nat.le_refl _)] at z
        have : oddB S0 t ps = false := by unfold oddB; rw [k1]; exact z
        unfold enL
        rw [this, k1]
        exact k3
      · have htc : tcB S0 n t = false := decide_eq_false (fun q => hz q.1)
        rw [if_neg hz] at c0
        rw [if_neg (fun q => by rw [htc] at q; exact absurd q.1 (by decide))] at d0
        refine G_iload (pc := 43) dX10_doing_43 rfl ?_
        refine G_aload_n (pc := 45) dX10_doing_45 rfl rfl ?_
        refine S_getI (pc := 46) dX10_doing_46 fX10_80 rfl (by first | rfl | assumption) rfl ?_
        rw [(hF.1 389 0 (by omega)).trans ha.1.1]
        refine N_icmp_ge (pc := 49) (tgt := 187) dX10_doing_49 (by decide) (by omega) (fun c49 => absurd c49 (by omega)) (fun c49 => ?_)
        refine G_iload_n (pc := 52) dX10_doing_52 rfl rfl ?_
        refine N_if_le (pc := 53) (tgt := 187) dX10_doing_53 (by decide) (by omega) (fun c53 => absurd c53 (by omega)) (fun c53 => ?_)
        refine G_aload_n (pc := 56) dX10_doing_56 rfl rfl ?_
        refine S_getR (pc := 57) (b := 392) dX10_doing_57 fX10_16 rfl rfl (by first | rfl | assumption) rfl rfl ?_
        refine G_iload (pc := 60) dX10_doing_60 rfl ?_
        refine N_iald (pc := 62) dX10_doing_62 (by first | rfl | assumption) (by first | rfl | assumption) (by omega) ?_
        rw [s2]
        refine N_if_ne (pc := 63) (tgt := 181) dX10_doing_63 (by decide) (by omega) (fun c63 => ?_) (fun c63 => absurd c63 (by omega))
        refine N_iinc (pc := 181) dX10_doing_181 rfl (by decide) rfl ?_
        refine G_goto (pc := 184) (tgt := 43) dX10_doing_184 (by decide) ?_
        have z1 : cuN S0 t = cuN S0 (t + 1) := by omega
        have z2 : dnC S0 n ps t = dnC S0 n ps (t + 1) := by omega
        rw [z1, z2]
        exact ih (t + 1) S _ _ (by omega) hF hdg hp (skp htc) h
end M36
