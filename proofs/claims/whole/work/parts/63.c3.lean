/-! the class: programs; shapes -/
/-- what a program's cells are; the program at a is ps -/
def PgK (a : Nat) : Prop := kd a = (2, 0) ∧ kd (a + 1) = (10, 3)
def PgIs (S : ST) (a : Nat) (ps : List Nat) : Prop := S.1 a 1 = nI ps.length ∧ ps.length ≤ 3 ∧ ∀ i, i < ps.length → S.2.1 (a + 1) i = nI (ps.getD i 0)
abbrev pgX (a : Nat) (x j : Nat) : Prop := x = a ∧ j = 1
abbrev pgA (a : Nat) (x : Nat) : Prop := x = a + 1
theorem PgIs.fr {S S' : ST} {a : Nat} {ps : List Nat} {px : Nat → Nat → Prop} {pi : Nat → Prop} (h : PgIs S a ps) (g : Fr px pi S S') (h1 : ¬ px a 1) (h2 : ¬ pi (a + 1)) : PgIs S' a ps := ⟨(g.1 _ _ h1).trans h.1, h.2.1, fun j hj => (g.2.1 _ h2 j).trans (h.2.2 j hj)⟩
theorem PgIs.push {S : ST} {a p : Nat} {ps : List Nat} (h : PgIs S a ps) (hl : ps.length < 3) : PgIs (upX (upI S (a + 1) ps.length (nI p)) a 1 (nI (ps.length + 1))) a (ps ++ [p]) := by
  refine ⟨by rw [upX_s]; simp, by simp; omega, fun i hi => ?_⟩
  show (upI S (a + 1) ps.length (nI p)).2.1 (a + 1) i = _
  by_cases h1 : i = ps.length
  · subst h1
    rw [upI_s]
    simp
  · rw [upI_n (fun q => h1 q.2), h.2.2 i (by simp at hi; omega)]
    simp only [List.length_append, List.length_cons, List.length_nil] at hi
    rw [List.getD_eq_getElem?_getD, List.getD_eq_getElem?_getD, List.getElem?_append_left (by omega)]
/-- pieces, and what they make has room in a row of 35 -/
def okJ : Nat → List Nat → Prop
  | _, [] => True
  | m, p :: r => m ≤ 19 ∧ isPc p ∧ okJ (m + (if 16777216 ≤ p then 3 else 16)) r
theorem okJ_of {ps : List Nat} (h : okL 0 ps) (hl : ps.length ≤ 3) : okJ 0 ps := by
  match ps, h, hl with
  | [], _, _ => trivial
  | [p], h, _ => exact ⟨by omega, h.2.1, trivial⟩
  | [p, q], h, _ => exact ⟨by omega, h.2.1, by split <;> omega, h.2.2.2.1, trivial⟩
  | [p, q, r], h, _ =>
    refine ⟨by omega, h.2.1, by split <;> omega, h.2.2.2.1, ?_, h.2.2.2.2.2.1, trivial⟩
    have h3 := h.2.2.2.2.1
    revert h3
    split <;> split <;> omega
theorem costS_l {ps : List Nat} : ∀ d, costS ps (ps.length + d) = costS ps ps.length
  | 0 => rfl
  | d + 1 => by
    show costS ps (ps.length + d) + (if ps.length + d < ps.length then _ else 0) = _
    rw [if_neg (by omega), costS_l d]
    rfl
theorem costS_3 {ps : List Nat} (h : ps.length ≤ 3) : costS ps 3 = costS ps ps.length := by
  have := costS_l (ps := ps) (3 - ps.length)
  rw [show ps.length + (3 - ps.length) = 3 by omega] at this
  exact this
def shcR : List Nat → Nat
  | [] => 1
  | k :: r => shcR r * 2 ^ 2 + (k - 1)
/-- a shape as one number -/
def shc (l : List Nat) : Nat := shcR l.reverse
def shI (l : List Nat) : Int32 := if l.length ≤ 12 then nI (shc l) else -1
theorem shc_push (l : List Nat) (k : Nat) : shc (l ++ [k]) = shc l * 2 ^ 2 + (k - 1) := by unfold shc; rw [List.reverse_append]; rfl
theorem shcR_pos : ∀ l, 1 ≤ shcR l
  | [] => Nat.le_refl _
  | k :: r => by have := shcR_pos r; show 1 ≤ shcR r * 4 + (k - 1); omega
theorem shcR_lt : ∀ l, (∀ k ∈ l, k ≤ 4) → shcR l < 4 ^ (l.length + 1)
  | [], _ => by decide
  | k :: r, h => by
    have h1 := shcR_lt r (fun q hq => h q (List.mem_cons_of_mem _ hq))
    have h2 := h k List.mem_cons_self
    show shcR r * 4 + (k - 1) < 4 ^ (r.length + 1 + 1)
    rw [Nat.pow_succ]
    omega
theorem shcR_inj : ∀ l m, (∀ k ∈ l, 1 ≤ k ∧ k ≤ 4) → (∀ k ∈ m, 1 ≤ k ∧ k ≤ 4) → shcR l = shcR m → l = m
  | [], [], _, _, _ => rfl
  | [], k :: r, _, _, h => by
    have := shcR_pos r
    have h : 1 = shcR r * 4 + (k - 1) := h
    omega
  | k :: r, [], _, _, h => by
    have := shcR_pos r
    have h : shcR r * 4 + (k - 1) = 1 := h
    omega
  | k :: r, k2 :: r2, h1, h2, h => by
    have h : shcR r * 4 + (k - 1) = shcR r2 * 4 + (k2 - 1) := h
    have a1 := h1 k List.mem_cons_self
    have a2 := h2 k2 List.mem_cons_self
    have e : k = k2 := by omega
    have e2 : shcR r = shcR r2 := by omega
    rw [e, shcR_inj r r2 (fun q hq => h1 q (List.mem_cons_of_mem _ hq)) (fun q hq => h2 q (List.mem_cons_of_mem _ hq)) e2]
theorem p4_13 {l : List Nat} (h : l.length ≤ 12) (h2 : ∀ k ∈ l, k ≤ 4) : shc l < 67108864 := by
  have h1 := shcR_lt l.reverse (fun k hk => h2 k (List.mem_reverse.mp hk))
  rw [List.length_reverse] at h1
  have h3 : 4 ^ (l.length + 1) ≤ 4 ^ 13 := Nat.pow_le_pow_right (by decide) (by omega)
  have h4 : 4 ^ 13 = 67108864 := by decide
  unfold shc
  omega
theorem shI_iff {l m : List Nat} (hl : l.length ≤ 12) (h1 : ∀ k ∈ l, 1 ≤ k ∧ k ≤ 4) (h2 : ∀ k ∈ m, 1 ≤ k ∧ k ≤ 4) : shI l = shI m ↔ l = m := by
  refine ⟨fun h => ?_, fun h => by rw [h]⟩
  unfold shI at h
  have a1 := p4_13 hl (fun k hk => (h1 k hk).2)
  rw [if_pos hl] at h
  split at h
  · rename_i hm
    have a2 := p4_13 hm (fun k hk => (h2 k hk).2)
    have e := (nI_eq (by omega) (by omega)).mp h
    have e2 := shcR_inj l.reverse m.reverse (fun k hk => h1 k (List.mem_reverse.mp hk)) (fun k hk => h2 k (List.mem_reverse.mp hk)) e
    exact List.reverse_inj.mp e2
  · have e := congrArg Int32.toInt h
    rw [nIt (by omega)] at e
    have z : (-1 : Int32).toInt = -1 := rfl
    rw [z] at e
    omega
theorem kindN_ge (c : Int32) : 1 ≤ kindN c := by
  unfold kindN
  repeat' split
  all_goals omega
theorem shp_mem (f : Nat → Int32) : ∀ i, ∀ k ∈ shp f i, 1 ≤ k ∧ k ≤ 4
  | 0, k, h => by cases h
  | i + 1, k, h => by
    unfold shp at h
    split at h
    · rcases List.mem_append.mp h with h | h
      · exact shp_mem f i k h
      · rw [List.mem_singleton] at h
        subst h
        exact ⟨kindN_ge _, kindN_lt _⟩
    · exact shp_mem f i k h
theorem shp_mono (f : Nat → Int32) (i : Nat) : ∀ d, (shp f i).length ≤ (shp f (i + d)).length
  | 0 => Nat.le_refl _
  | d + 1 => by
    have h1 := shp_mono f i d
    have e : shp f (i + d + 1) = if i + d = 0 ∨ ¬ kindN (f (i + d)) = kindN (f (i + d - 1)) then shp f (i + d) ++ [kindN (f (i + d))] else shp f (i + d) := rfl
    show _ ≤ (shp f (i + d + 1)).length
    rw [e]
    split
    · simp; omega
    · exact h1
section C3
variable {sc : SC} {S : ST} {Q : Option AV → HM → Prop}
/-- the kind ahead of i -/
def bfI (f : Nat → Int32) (i : Nat) : Int32 := if i = 0 then -1 else nI (kindN (f (i - 1)) - 1)
theorem kd_same {f : Nat → Int32} {i : Nat} : (nI (kindN (f i) - 1)).toInt = (bfI f i).toInt ↔ ¬ (i = 0 ∨ ¬ kindN (f i) = kindN (f (i - 1))) := by
  have h1 := kindN_ge (f i)
  have h2 := kindN_lt (f i)
  unfold bfI
  by_cases e : i = 0
  · rw [if_pos e, nIt (by omega)]
    have z : (-1 : Int32).toInt = -1 := rfl
    rw [z]
    constructor
    · intro h; omega
    · intro h; exact absurd (Or.inl e) h
  · have h3 := kindN_ge (f (i - 1))
    have h4 := kindN_lt (f (i - 1))
    rw [if_neg e, nIt (by omega), nIt (by omega)]
    omega
set_option maxRecDepth 100000 in
set_option maxHeartbeats 4000000 in
theorem shapeOf_lp {a m n : Nat} {f : Nat → Int32} (ha : RwK a m) (hsz : S.1 a 1 = nI n) (hn : n ≤ m) (hf : ∀ j, j < n → S.2.1 (a + 1) j = f j) (h : Q (some (aI (shI (shp f n)))) (mk S)) :
    ∀ (d i : Nat) (o5 : Option AV), i + d = n → (shp f i).length ≤ 12 →
      G sc mX1_shapeOf 9 [some (aR a), some (aI (nI (shc (shp f i)))), some (aI (nI (shp f i).length)), some (aI (bfI f i)), some (aI (nI i)), o5] [] (mk S) Q := by
  obtain ⟨k1, k2, k3⟩ := ha
  have hm2 : m ≤ 65536 := Nat.le_of_ble_eq_true k3
  intro d
  induction d with
  | zero =>
    intro i o5 hi hl
    have e : i = n := by omega
    subst e
    refine G_iload (pc := 9) dX1_shapeOf_9 rfl ?_
    refine G_aload_n (pc := 11) dX1_shapeOf_11 rfl rfl ?_
    refine S_getI (pc := 12) dX1_shapeOf_12 fX1_21 rfl (by first | rfl | assumption) rfl ?_
    rw [hsz]
    refine N_icmp_ge (pc := 15) (tgt := 66) dX1_shapeOf_15 (by decide) (by omega) (fun c15 => ?_) (fun c15 => absurd c15 (by omega))
    refine G_iload_n (pc := 66) dX1_shapeOf_66 rfl rfl ?_
    refine S_iret (pc := 67) dX1_shapeOf_67 rfl ?_
    exact q_i h (by unfold shI; rw [if_pos hl])
  | succ d ih =>
    intro i o5 hi hl
    have hb := p4_13 hl (fun k hk => (shp_mem f i k hk).2)
    have hk1 := kindN_ge (f i)
    have hk2 := kindN_lt (f i)
    refine G_iload (pc := 9) dX1_shapeOf_9 rfl ?_
    refine G_aload_n (pc := 11) dX1_shapeOf_11 rfl rfl ?_
    refine S_getI (pc := 12) dX1_shapeOf_12 fX1_21 rfl (by first | rfl | assumption) rfl ?_
    rw [hsz]
    refine N_icmp_ge (pc := 15) (tgt := 66) dX1_shapeOf_15 (by decide) (by omega) (fun c15 => absurd c15 (by omega)) (fun c15 => ?_)
    refine G_aload_n (pc := 18) dX1_shapeOf_18 rfl rfl ?_
    refine S_getR (pc := 19) (b := a + 1) dX1_shapeOf_19 fX1_27 rfl rfl (by first | rfl | assumption) rfl rfl ?_
    refine G_iload (pc := 22) dX1_shapeOf_22 rfl ?_
    refine N_bald (pc := 24) dX1_shapeOf_24 (by first | rfl | assumption) (by first | rfl | assumption) (by omega) ?_
    rw [hf i (by omega)]
    refine S_callS (av := [_]) (pc := 25) (z := mX1_shapeKindOf) dX1_shapeOf_25 zX1_shapeKindOf lX1_shapeOf_31 rfl (sX1_shapeKindOf ⟨_, rfl, ?_⟩)
    refine G_istore (pc := 28) dX1_shapeOf_28 (by decide) rfl ?_
    refine G_iload (pc := 30) dX1_shapeOf_30 rfl ?_
    refine G_iload_n (pc := 32) dX1_shapeOf_32 rfl rfl ?_
    refine T_icmp_ne (pc := 33) (tgt := 39) dX1_shapeOf_33 (by decide) (fun c33 => ?_) (fun c33 => ?_)
    · skip
      have c33 : i = 0 ∨ ¬ kindN (f i) = kindN (f (i - 1)) := by
        by_cases q : i = 0 ∨ ¬ kindN (f i) = kindN (f (i - 1))
        · exact q
        · exact absurd (kd_same.mpr q) c33
      have e1 : shp f (i + 1) = shp f i ++ [kindN (f i)] := by conv => lhs; unfold shp; rw [if_pos c33]
      have e2 : bfI f (i + 1) = nI (kindN (f i) - 1) := by unfold bfI; rw [if_neg (by omega), show i + 1 - 1 = i by omega]
      refine G_iload_n (pc := 39) dX1_shapeOf_39 rfl rfl ?_
      refine G_bipush (pc := 40) (v := nI 12) dX1_shapeOf_40 (by decide) ?_
      refine N_icmp_ne (pc := 42) (tgt := 47) dX1_shapeOf_42 (by decide) (by omega) (fun c42 => ?_) (fun c42 => ?_)
      · skip
        refine G_iload_n (pc := 47) dX1_shapeOf_47 rfl rfl ?_
        refine G_iconst (pc := 48) (v := nI 2) dX1_shapeOf_48 (by decide) ?_
        refine G_ishl (pc := 49) dX1_shapeOf_49 ?_
        rw [shlN (by omega) (by omega)]
        refine G_iload (pc := 50) dX1_shapeOf_50 rfl ?_
        refine G_ior (pc := 52) dX1_shapeOf_52 ?_
        rw [orM (k := 2) _ (by omega), ← shc_push, ← e1]
        refine G_istore_n (pc := 53) dX1_shapeOf_53 rfl (by decide) rfl ?_
        refine N_iinc (pc := 54) dX1_shapeOf_54 rfl (by decide) rfl ?_
        refine G_iload (pc := 57) dX1_shapeOf_57 rfl ?_
        refine G_istore_n (pc := 59) dX1_shapeOf_59 rfl (by decide) rfl ?_
        refine N_iinc (pc := 60) dX1_shapeOf_60 rfl (by decide) rfl ?_
        refine G_goto (pc := 63) (tgt := 9) dX1_shapeOf_63 (by decide) ?_
        first
          | (have ih2 := ih (i + 1) (some (aI (nI (kindN (f i) - 1)))) (by omega) (by rw [e1]; exact hl)
             rw [e1, e2] at ih2
             exact ih2)
          | (have ih2 := ih (i + 1) (some (aI (nI (kindN (f i) - 1)))) (by omega) (by rw [e1]; simp; omega)
             rw [e2] at ih2
             rw [show (shp f i).length + 1 = (shp f (i + 1)).length by rw [e1]; simp]
             exact ih2)
      · skip
        refine G_iconst (pc := 45) (v := (-1)) dX1_shapeOf_45 (by decide) ?_
        refine S_iret (pc := 46) dX1_shapeOf_46 rfl ?_
        refine q_i h ?_
        have q := shp_mono f (i + 1) d
        rw [show i + 1 + d = n by omega, e1] at q
        simp at q
        unfold shI
        rw [if_neg (by omega)]
    · skip
      have c33 := kd_same.mp c33
      have e1 : shp f (i + 1) = shp f i := by conv => lhs; unfold shp; rw [if_neg c33]
      have e2 : bfI f (i + 1) = bfI f i := by
        have q : kindN (f i) = kindN (f (i - 1)) := by omega
        unfold bfI
        rw [if_neg (by omega), if_neg (by omega), show i + 1 - 1 = i by omega, q]
      refine G_goto (pc := 36) (tgt := 60) dX1_shapeOf_36 (by decide) ?_
      refine N_iinc (pc := 60) dX1_shapeOf_60 rfl (by decide) rfl ?_
      refine G_goto (pc := 63) (tgt := 9) dX1_shapeOf_63 (by decide) ?_
      first
        | (have ih2 := ih (i + 1) (some (aI (nI (kindN (f i) - 1)))) (by omega) (by rw [e1]; exact hl)
           rw [e1, e2] at ih2
           exact ih2)
        | (have ih2 := ih (i + 1) (some (aI (nI (kindN (f i) - 1)))) (by omega) (by rw [e1]; simp; omega)
           rw [e2] at ih2
           rw [show (shp f i).length + 1 = (shp f (i + 1)).length by rw [e1]; simp]
           exact ih2)
set_option maxRecDepth 100000 in
set_option maxHeartbeats 4000000 in
theorem sX1_shapeOf {a m n : Nat} {f : Nat → Int32} (ha : RwK a m) (hsz : S.1 a 1 = nI n) (hn : n ≤ m) (hf : ∀ j, j < n → S.2.1 (a + 1) j = f j) (h : Q (some (aI (shI (shp f n)))) (mk S)) : CT sc mX1_shapeOf [aR a] (mk S) Q := by
  refine S_of (by decide) rfl ?_
  show G sc mX1_shapeOf 0 [some (aR a), none, none, none, none, none] [] (mk S) Q
  refine G_iconst (pc := 0) (v := nI 1) dX1_shapeOf_0 (by decide) ?_
  refine G_istore_n (pc := 1) dX1_shapeOf_1 rfl (by decide) rfl ?_
  refine G_iconst (pc := 2) (v := nI 0) dX1_shapeOf_2 (by decide) ?_
  refine G_istore_n (pc := 3) dX1_shapeOf_3 rfl (by decide) rfl ?_
  refine G_iconst (pc := 4) (v := (-1)) dX1_shapeOf_4 (by decide) ?_
  refine G_istore_n (pc := 5) dX1_shapeOf_5 rfl (by decide) rfl ?_
  refine G_iconst (pc := 6) (v := nI 0) dX1_shapeOf_6 (by decide) ?_
  refine G_istore (pc := 7) dX1_shapeOf_7 (by decide) rfl ?_
  exact shapeOf_lp ha hsz hn hf h n 0 _ (by omega) (by show 0 ≤ 12; omega)
theorem k19 : (16777216 : Int32) = nI 16777216 := rfl
set_option maxRecDepth 100000 in
set_option maxHeartbeats 4000000 in
theorem sX3_costOf {p : Nat} (hp : p < 2147483648) (h : Q (some (aI (nI (costN p)))) (mk S)) : CT sc mX3_costOf [aI (nI p)] (mk S) Q := by
  refine S_of (by decide) rfl ?_
  show G sc mX3_costOf 0 [some (aI (nI p))] [] (mk S) Q
  refine G_iload_n (pc := 0) dX3_costOf_0 rfl rfl ?_
  refine G_ldc (pc := 1) dX3_costOf_1 kX3_19 ?_
  rw [k19]
  refine N_icmp_lt (pc := 3) (tgt := 13) dX3_costOf_3 (by decide) (by omega) (fun c3 => ?_) (fun c3 => ?_)
  · skip
    refine G_iload_n (pc := 13) dX3_costOf_13 rfl rfl ?_
    refine G_iconst (pc := 14) (v := nI 3) dX3_costOf_14 (by decide) ?_
    refine N_irem (pc := 15) dX3_costOf_15 (by omega) ?_
    refine N_if_ne (pc := 16) (tgt := 23) dX3_costOf_16 (by decide) (by omega) (fun c16 => ?_) (fun c16 => ?_)
    · skip
      refine G_iconst (pc := 23) (v := nI 5) dX3_costOf_23 (by decide) ?_
      refine S_iret (pc := 24) dX3_costOf_24 rfl ?_
      exact q_i h (congrArg nI (by simp only [costN]; split <;> (try split) <;> omega))
    · skip
      refine G_iconst (pc := 19) (v := nI 4) dX3_costOf_19 (by decide) ?_
      refine G_goto (pc := 20) (tgt := 24) dX3_costOf_20 (by decide) ?_
      refine S_iret (pc := 24) dX3_costOf_24 rfl ?_
      exact q_i h (congrArg nI (by simp only [costN]; split <;> (try split) <;> omega))
  · skip
    refine G_iconst (pc := 6) (v := nI 2) dX3_costOf_6 (by decide) ?_
    refine G_iload_n (pc := 7) dX3_costOf_7 rfl rfl ?_
    refine G_ldc (pc := 8) dX3_costOf_8 kX3_19 ?_
    rw [k19]
    refine N_idiv (pc := 10) dX3_costOf_10 (by omega) ?_
    refine N_iadd (pc := 11) dX3_costOf_11 ?_
    refine S_iret (pc := 12) dX3_costOf_12 rfl ?_
    exact q_i h (congrArg nI (by simp only [costN]; split <;> (try split) <;> omega))
set_option maxRecDepth 100000 in
set_option maxHeartbeats 4000000 in
theorem sX3_clear {a : Nat} (ha : PgK a) (h : Q none (mk (upX S a 1 (nI 0)))) : CT sc mX3_clear [aR a] (mk S) Q := by
  refine S_of (by decide) rfl ?_
  show G sc mX3_clear 0 [some (aR a)] [] (mk S) Q
  obtain ⟨k1, k2⟩ := ha
  refine G_aload_n (pc := 0) dX3_clear_0 rfl rfl ?_
  refine G_iconst (pc := 1) (v := nI 0) dX3_clear_1 (by decide) ?_
  refine S_putI (pc := 2) dX3_clear_2 fX3_15 (by decide) rfl (by first | rfl | assumption) rfl ?_
  refine S_vret (pc := 5) dX3_clear_5 rfl ?_
  exact h
theorem PgIs.nil {S : ST} {a : Nat} : PgIs (upX S a 1 (nI 0)) a [] := ⟨by rw [upX_s]; rfl, by simp, fun i hi => by simp at hi⟩
set_option maxRecDepth 100000 in
set_option maxHeartbeats 4000000 in
theorem sX3_add {a p : Nat} {ps : List Nat} (ha : PgK a) (hp : PgIs S a ps) (hl : ps.length < 3) (h : ∀ S', Fr (pgX a) (pgA a) S S' → PgIs S' a (ps ++ [p]) → Q none (mk S')) : CT sc mX3_add [aR a, aI (nI p)] (mk S) Q := by
  refine S_of (by decide) rfl ?_
  show G sc mX3_add 0 [some (aR a), some (aI (nI p))] [] (mk S) Q
  obtain ⟨k1, k2⟩ := ha
  refine G_aload_n (pc := 0) dX3_add_0 rfl rfl ?_
  refine S_getI (pc := 1) dX3_add_1 fX3_15 rfl (by first | rfl | assumption) rfl ?_
  rw [hp.1]
  refine G_iconst (pc := 4) (v := nI 3) dX3_add_4 (by decide) ?_
  refine N_icmp_ge (pc := 5) (tgt := 28) dX3_add_5 (by decide) (by omega) (fun c5 => absurd c5 (by omega)) (fun c5 => ?_)
  refine G_aload_n (pc := 8) dX3_add_8 rfl rfl ?_
  refine S_getR (pc := 9) (b := a + 1) dX3_add_9 fX3_9 rfl rfl (by first | rfl | assumption) rfl rfl ?_
  refine G_aload_n (pc := 12) dX3_add_12 rfl rfl ?_
  refine S_getI (pc := 13) dX3_add_13 fX3_15 rfl (by first | rfl | assumption) rfl ?_
  rw [hp.1]
  refine G_iload_n (pc := 16) dX3_add_16 rfl rfl ?_
  refine N_iast (pc := 17) dX3_add_17 (by first | rfl | assumption) (by first | rfl | assumption) (by omega) ?_
  refine G_aload_n (pc := 18) dX3_add_18 rfl rfl ?_
  refine G_dup (pc := 19) dX3_add_19 rfl ?_
  refine S_getI (pc := 20) dX3_add_20 fX3_15 rfl (by first | rfl | assumption) rfl ?_
  rw [show (upI S (a + 1) ps.length (nI p)).1 a 1 = nI ps.length from hp.1]
  refine G_iconst (pc := 23) (v := nI 1) dX3_add_23 (by decide) ?_
  refine N_iadd (pc := 24) dX3_add_24 ?_
  refine S_putI (pc := 25) dX3_add_25 fX3_15 (by decide) rfl (by first | rfl | assumption) rfl ?_
  refine S_vret (pc := 28) dX3_add_28 rfl ?_
  exact h _ (Fr.tr (Fr.upI rfl) (Fr.upX ⟨rfl, rfl⟩)) (hp.push hl)
theorem take_add1 {ps : List Nat} {i : Nat} (h : i < ps.length) : ps.take (i + 1) = ps.take i ++ [ps.getD i 0] := by
  rw [List.take_add_one, List.getD_eq_getElem?_getD, List.getElem?_eq_getElem h]
  rfl
set_option maxRecDepth 100000 in
set_option maxHeartbeats 4000000 in
theorem pgCopy_lp {a c : Nat} {ps : List Nat} (ha : PgK a) (hc : PgK c) (hac : a < c ∨ c < a) :
    ∀ (d i : Nat) (S : ST), i + d = ps.length → PgIs S c ps → PgIs S a (ps.take i) → (∀ S', Fr (pgX a) (pgA a) S S' → PgIs S' a ps → Q none (mk S')) →
      G sc mX3_copyOf 6 [some (aR a), some (aR c), some (aI (nI i))] [] (mk S) Q := by
  have ha0 := ha
  have hc1 : ¬ a = c + 1 := fun e => by have h1 := ha.1; rw [e, hc.2] at h1; cases h1
  have hc2 : ¬ c = a + 1 := fun e => by have h1 := hc.1; rw [e, ha.2] at h1; cases h1
  obtain ⟨k1, k2⟩ := ha
  obtain ⟨j1, j2⟩ := hc
  intro d
  induction d with
  | zero =>
    intro i S hi hl hr h
    have e : i = ps.length := by omega
    subst e
    rw [List.take_length] at hr
    have hl3 := hl.2.1
    refine G_iload_n (pc := 6) dX3_copyOf_6 rfl rfl ?_
    refine G_aload_n (pc := 7) dX3_copyOf_7 rfl rfl ?_
    refine S_getI (pc := 8) dX3_copyOf_8 fX3_15 rfl (by first | rfl | assumption) rfl ?_
    rw [hl.1]
    refine N_icmp_ge (pc := 11) (tgt := 30) dX3_copyOf_11 (by decide) (by omega) (fun c11 => ?_) (fun c11 => absurd c11 (by omega))
    refine S_vret (pc := 30) dX3_copyOf_30 rfl ?_
    exact h S Fr.rf hr
  | succ d ih =>
    intro i S hi hl hr h
    have hl3 := hl.2.1
    have e : (ps.take i).length = i := by rw [List.length_take]; omega
    refine G_iload_n (pc := 6) dX3_copyOf_6 rfl rfl ?_
    refine G_aload_n (pc := 7) dX3_copyOf_7 rfl rfl ?_
    refine S_getI (pc := 8) dX3_copyOf_8 fX3_15 rfl (by first | rfl | assumption) rfl ?_
    rw [hl.1]
    refine N_icmp_ge (pc := 11) (tgt := 30) dX3_copyOf_11 (by decide) (by omega) (fun c11 => absurd c11 (by omega)) (fun c11 => ?_)
    refine G_aload_n (pc := 14) dX3_copyOf_14 rfl rfl ?_
    refine G_aload_n (pc := 15) dX3_copyOf_15 rfl rfl ?_
    refine S_getR (pc := 16) (b := c + 1) dX3_copyOf_16 fX3_9 rfl rfl (by first | rfl | assumption) rfl rfl ?_
    refine G_iload_n (pc := 19) dX3_copyOf_19 rfl rfl ?_
    refine N_iald (pc := 20) dX3_copyOf_20 (by first | rfl | assumption) (by first | rfl | assumption) (by omega) ?_
    rw [hl.2.2 i (by omega)]
    refine S_callV (av := [_]) (pc := 21) (z := mX3_add) (ci := 2) dX3_copyOf_21 zX3_add lX3_copyOf_23 rfl (by first | rfl | assumption) rfl rfl (sX3_add ha0 hr (by omega) (fun S1 w1 w2 => ⟨_, rfl, ?_⟩))
    refine N_iinc (pc := 24) dX3_copyOf_24 rfl (by decide) rfl ?_
    refine G_goto (pc := 27) (tgt := 6) dX3_copyOf_27 (by decide) ?_
    rw [← take_add1 (by omega)] at w2
    exact ih (i + 1) S1 (by omega) (hl.fr w1 (by show ¬ (_ ∧ _); omega) (by show ¬ _ = _; omega)) w2 (fun S' g1 g2 => h S' (w1.tr g1) g2)
set_option maxRecDepth 100000 in
set_option maxHeartbeats 4000000 in
theorem sX3_copyOf {a c : Nat} {ps : List Nat} (ha : PgK a) (hc : PgK c) (hac : a < c ∨ c < a) (hl : PgIs S c ps) (h : ∀ S', Fr (pgX a) (pgA a) S S' → PgIs S' a ps → Q none (mk S')) : CT sc mX3_copyOf [aR a, aR c] (mk S) Q := by
  refine S_of (by decide) rfl ?_
  show G sc mX3_copyOf 0 [some (aR a), some (aR c), none] [] (mk S) Q
  have ha0 := ha
  obtain ⟨k1, k2⟩ := ha
  have g0 : Fr (pgX a) (pgA a) S (upX S a 1 (nI 0)) := Fr.upX ⟨rfl, rfl⟩
  have hc2 : ¬ c + 1 = a := fun e => by have h1 := hc.2; rw [e, k1] at h1; cases h1
  refine G_aload_n (pc := 0) dX3_copyOf_0 rfl rfl ?_
  refine S_callV (av := []) (pc := 1) (z := mX3_clear) (ci := 2) dX3_copyOf_1 zX3_clear lX3_copyOf_20 rfl (by first | rfl | assumption) rfl rfl (sX3_clear ha0 ⟨_, rfl, ?_⟩)
  refine G_iconst (pc := 4) (v := nI 0) dX3_copyOf_4 (by decide) ?_
  refine G_istore_n (pc := 5) dX3_copyOf_5 rfl (by decide) rfl ?_
  exact pgCopy_lp ha0 hc hac ps.length 0 _ (by omega) ⟨(upX_n (by omega)).trans hl.1, hl.2⟩ PgIs.nil (fun S' g1 g2 => h S' (g0.tr g1) g2)
set_option maxRecDepth 100000 in
set_option maxHeartbeats 4000000 in
theorem sX3_endsWithCut {a : Nat} {ps : List Nat} (ha : PgK a) (hp : PgIs S a ps) (h0 : ps ≠ []) (hpc : ∀ p ∈ ps, isPc p) (h : Q (some (aI (bI (decide (ps.getD (ps.length - 1) 0 < 16777216))))) (mk S)) : CT sc mX3_endsWithCut [aR a] (mk S) Q := by
  refine S_of (by decide) rfl ?_
  show G sc mX3_endsWithCut 0 [some (aR a)] [] (mk S) Q
  obtain ⟨k1, k2⟩ := ha
  have hl3 := hp.2.1
  have hpos := List.length_pos_iff.mpr h0
  have hlt := isPc_lt (hpc _ (getD_mem (ps := ps) (k := ps.length - 1) (by omega)))
  refine G_aload_n (pc := 0) dX3_endsWithCut_0 rfl rfl ?_
  refine S_getI (pc := 1) dX3_endsWithCut_1 fX3_15 rfl (by first | rfl | assumption) rfl ?_
  rw [hp.1]
  refine N_if_le (pc := 4) (tgt := 27) dX3_endsWithCut_4 (by decide) (by omega) (fun c4 => absurd c4 (by omega)) (fun c4 => ?_)
  refine G_aload_n (pc := 7) dX3_endsWithCut_7 rfl rfl ?_
  refine S_getR (pc := 8) (b := a + 1) dX3_endsWithCut_8 fX3_9 rfl rfl (by first | rfl | assumption) rfl rfl ?_
  refine G_aload_n (pc := 11) dX3_endsWithCut_11 rfl rfl ?_
  refine S_getI (pc := 12) dX3_endsWithCut_12 fX3_15 rfl (by first | rfl | assumption) rfl ?_
  rw [hp.1]
  refine G_iconst (pc := 15) (v := nI 1) dX3_endsWithCut_15 (by decide) ?_
  refine N_isub (pc := 16) dX3_endsWithCut_16 (by omega) ?_
  refine N_iald (pc := 17) dX3_endsWithCut_17 (by first | rfl | assumption) (by first | rfl | assumption) (by omega) ?_
  rw [hp.2.2 (ps.length - 1) (by omega)]
  refine G_ldc (pc := 18) dX3_endsWithCut_18 kX3_19 ?_
  rw [k19]
  refine N_icmp_ge (pc := 20) (tgt := 27) dX3_endsWithCut_20 (by decide) (by omega) (fun c20 => ?_) (fun c20 => ?_)
  · skip
    rw [decide_eq_false (by omega)] at h
    refine G_iconst (pc := 27) (v := nI 0) dX3_endsWithCut_27 (by decide) ?_
    refine S_zret (pc := 28) dX3_endsWithCut_28 rfl rfl ?_
    exact h
  · skip
    rw [decide_eq_true (by omega)] at h
    refine G_iconst (pc := 23) (v := nI 1) dX3_endsWithCut_23 (by decide) ?_
    refine G_goto (pc := 24) (tgt := 28) dX3_endsWithCut_24 (by decide) ?_
    refine S_zret (pc := 28) dX3_endsWithCut_28 rfl rfl ?_
    exact h
set_option maxRecDepth 100000 in
set_option maxHeartbeats 4000000 in
theorem sX3_pieceCount {a : Nat} {ps : List Nat} (ha : PgK a) (hp : PgIs S a ps) (h : Q (some (aI (nI ps.length))) (mk S)) : CT sc mX3_pieceCount [aR a] (mk S) Q := by
  refine S_of (by decide) rfl ?_
  show G sc mX3_pieceCount 0 [some (aR a)] [] (mk S) Q
  obtain ⟨k1, k2⟩ := ha
  refine G_aload_n (pc := 0) dX3_pieceCount_0 rfl rfl ?_
  refine S_getI (pc := 1) dX3_pieceCount_1 fX3_15 rfl (by first | rfl | assumption) rfl ?_
  rw [hp.1]
  refine S_iret (pc := 4) dX3_pieceCount_4 rfl ?_
  exact h
set_option maxRecDepth 100000 in
set_option maxHeartbeats 4000000 in
theorem pgTold_lp {a : Nat} {w : Int32} {ps : List Nat} (ha : PgK a) (hp : PgIs S a ps) (hpc : ∀ p ∈ ps, isPc p) (h : Q (some (aI (nI (costS ps ps.length)))) (mk S)) :
    ∀ (d i : Nat), i + d = ps.length → G sc mX3_told 8 [some (aR a), some (aI w), some (aI (nI (costS ps i))), some (aI (nI i))] [] (mk S) Q := by
  obtain ⟨k1, k2⟩ := ha
  have hl3 := hp.2.1
  intro d
  induction d with
  | zero =>
    intro i hi
    have e : i = ps.length := by omega
    subst e
    refine G_iload_n (pc := 8) dX3_told_8 rfl rfl ?_
    refine G_aload_n (pc := 9) dX3_told_9 rfl rfl ?_
    refine S_getI (pc := 10) dX3_told_10 fX3_15 rfl (by first | rfl | assumption) rfl ?_
    rw [hp.1]
    refine N_icmp_ge (pc := 13) (tgt := 34) dX3_told_13 (by decide) (by omega) (fun c13 => ?_) (fun c13 => absurd c13 (by omega))
    refine G_iload_n (pc := 34) dX3_told_34 rfl rfl ?_
    refine S_iret (pc := 35) dX3_told_35 rfl ?_
    exact h
  | succ d ih =>
    intro i hi
    have hlt := isPc_lt (hpc _ (getD_mem (ps := ps) (k := i) (by omega)))
    have e : costS ps i + costN (ps.getD i 0) = costS ps (i + 1) := by
      show _ = costS ps i + (if i < ps.length then _ else 0)
      rw [if_pos (by omega)]
    refine G_iload_n (pc := 8) dX3_told_8 rfl rfl ?_
    refine G_aload_n (pc := 9) dX3_told_9 rfl rfl ?_
    refine S_getI (pc := 10) dX3_told_10 fX3_15 rfl (by first | rfl | assumption) rfl ?_
    rw [hp.1]
    refine N_icmp_ge (pc := 13) (tgt := 34) dX3_told_13 (by decide) (by omega) (fun c13 => absurd c13 (by omega)) (fun c13 => ?_)
    refine G_iload_n (pc := 16) dX3_told_16 rfl rfl ?_
    refine G_aload_n (pc := 17) dX3_told_17 rfl rfl ?_
    refine S_getR (pc := 18) (b := a + 1) dX3_told_18 fX3_9 rfl rfl (by first | rfl | assumption) rfl rfl ?_
    refine G_iload_n (pc := 21) dX3_told_21 rfl rfl ?_
    refine N_iald (pc := 22) dX3_told_22 (by first | rfl | assumption) (by first | rfl | assumption) (by omega) ?_
    rw [hp.2.2 i (by omega)]
    refine S_callS (av := [_]) (pc := 23) (z := mX3_costOf) dX3_told_23 zX3_costOf lX3_told_27 rfl (sX3_costOf (by omega) ⟨_, rfl, ?_⟩)
    refine N_iadd (pc := 26) dX3_told_26 ?_
    rw [e]
    refine G_istore_n (pc := 27) dX3_told_27 rfl (by decide) rfl ?_
    refine N_iinc (pc := 28) dX3_told_28 rfl (by decide) rfl ?_
    refine G_goto (pc := 31) (tgt := 8) dX3_told_31 (by decide) ?_
    exact ih (i + 1) (by omega)
set_option maxRecDepth 100000 in
set_option maxHeartbeats 4000000 in
theorem sX3_told {a : Nat} {w : Int32} {ps : List Nat} (ha : PgK a) (hp : PgIs S a ps) (hpc : ∀ p ∈ ps, isPc p) (h : Q (some (aI (if 0 ≤ w.toInt ∧ w.toInt ≤ 4 then tolP ps w.toNatClampNeg else -1))) (mk S)) : CT sc mX3_told [aR a, aI w] (mk S) Q := by
  refine S_of (by decide) rfl ?_
  show G sc mX3_told 0 [some (aR a), some (aI w), none, none] [] (mk S) Q
  have ha0 := ha
  obtain ⟨k1, k2⟩ := ha
  have hl3 := hp.2.1
  have z1 : (nI 1).toInt = 1 := rfl
  have z2 : (nI 2).toInt = 2 := rfl
  refine G_iload_n (pc := 0) dX3_told_0 rfl rfl ?_
  refine T_if_ne (pc := 1) (tgt := 36) dX3_told_1 (by decide) (fun c1 => ?_) (fun c1 => ?_)
  · skip
    refine G_iload_n (pc := 36) dX3_told_36 rfl rfl ?_
    refine G_iconst (pc := 37) (v := nI 1) dX3_told_37 (by decide) ?_
    refine T_icmp_ne (pc := 38) (tgt := 46) dX3_told_38 (by decide) (fun c38 => ?_) (fun c38 => ?_)
    · skip
      rw [z1] at c38
      refine G_iload_n (pc := 46) dX3_told_46 rfl rfl ?_
      refine G_iconst (pc := 47) (v := nI 2) dX3_told_47 (by decide) ?_
      refine T_icmp_lt (pc := 48) (tgt := 72) dX3_told_48 (by decide) (fun c48 => ?_) (fun c48 => ?_)
      · skip
        rw [z2] at c48
        rw [if_neg (by omega)] at h
        refine G_iconst (pc := 72) (v := (-1)) dX3_told_72 (by decide) ?_
        refine S_iret (pc := 73) dX3_told_73 rfl ?_
        exact h
      · skip
        rw [z2] at c48
        refine G_iload_n (pc := 51) dX3_told_51 rfl rfl ?_
        refine G_iconst (pc := 52) (v := nI 2) dX3_told_52 (by decide) ?_
        refine G_aload_n (pc := 53) dX3_told_53 rfl rfl ?_
        refine S_getI (pc := 54) dX3_told_54 fX3_15 rfl (by first | rfl | assumption) rfl ?_
        rw [hp.1]
        refine N_iadd (pc := 57) dX3_told_57 ?_
        refine T_icmp_ge (pc := 58) (tgt := 72) dX3_told_58 (by decide) (fun c58 => ?_) (fun c58 => ?_)
        · skip
          rw [nIt (by omega)] at c58
          have h : Q (some (aI (-1))) (mk S) := by
            by_cases q : w.toInt ≤ 4
            · rw [if_pos (by omega), nI_clampT (n := w.toInt.toNat) (by omega)] at h
              unfold tolP at h
              rw [if_neg (by omega), if_neg (by omega), if_neg (by omega)] at h
              exact h
            · rw [if_neg (by omega)] at h
              exact h
          refine G_iconst (pc := 72) (v := (-1)) dX3_told_72 (by decide) ?_
          refine S_iret (pc := 73) dX3_told_73 rfl ?_
          exact h
        · skip
          rw [nIt (by omega)] at c58
          rw [if_pos (by omega), nI_clampT (n := w.toInt.toNat) (by omega)] at h
          unfold tolP at h
          rw [if_neg (by omega), if_neg (by omega), if_pos (by omega)] at h
          have hw : w - nI 2 = nI (w.toInt.toNat - 2) := nI_ofT (by rw [sub_toInt (by rw [z2]; omega) (by rw [z2]; omega), z2]; omega)
          refine G_aload_n (pc := 61) dX3_told_61 rfl rfl ?_
          refine S_getR (pc := 62) (b := a + 1) dX3_told_62 fX3_9 rfl rfl (by first | rfl | assumption) rfl rfl ?_
          refine G_iload_n (pc := 65) dX3_told_65 rfl rfl ?_
          refine G_iconst (pc := 66) (v := nI 2) dX3_told_66 (by decide) ?_
          refine G_isub (pc := 67) dX3_told_67 ?_
          rw [hw]
          refine N_iald (pc := 68) dX3_told_68 (by first | rfl | assumption) (by first | rfl | assumption) (by omega) ?_
          rw [hp.2.2 (w.toInt.toNat - 2) (by omega)]
          refine G_goto (pc := 69) (tgt := 73) dX3_told_69 (by decide) ?_
          refine S_iret (pc := 73) dX3_told_73 rfl ?_
          exact h
    · skip
      rw [z1] at c38
      rw [if_pos (by omega), nI_clampT (n := 1) (by omega)] at h
      refine G_aload_n (pc := 41) dX3_told_41 rfl rfl ?_
      refine S_getI (pc := 42) dX3_told_42 fX3_15 rfl (by first | rfl | assumption) rfl ?_
      rw [hp.1]
      refine S_iret (pc := 45) dX3_told_45 rfl ?_
      exact h
  · skip
    rw [if_pos (by omega), nI_clampT (n := 0) (by omega)] at h
    have h : Q (some (aI (nI (costS ps 3)))) (mk S) := h
    rw [costS_3 hl3] at h
    refine G_iconst (pc := 4) (v := nI 0) dX3_told_4 (by decide) ?_
    refine G_istore_n (pc := 5) dX3_told_5 rfl (by decide) rfl ?_
    refine G_iconst (pc := 6) (v := nI 0) dX3_told_6 (by decide) ?_
    refine G_istore_n (pc := 7) dX3_told_7 rfl (by decide) rfl ?_
    exact pgTold_lp ha0 hp hpc h ps.length 0 (by omega)
set_option maxRecDepth 100000 in
set_option maxHeartbeats 4000000 in
theorem writeTyped_lp {p o m : Nat} (ho : RwK o m) (hp : p < 67108864) :
    ∀ (k : Nat) (S : ST) (l : List Int32), k ≤ 3 → (∀ i, i < k → 32 ≤ p / 2 ^ (8 * i) % 256 ∧ p / 2 ^ (8 * i) % 256 ≤ 126) → RwIs S o l → l.length + k ≤ m → (∀ S', Fr (rwX o) (rwA o) S S' → RwIs S' o (l ++ typF p k) → Q none (mk S')) →
      G sc mX3_writeTyped 7 [some (aI (nI p)), some (aR o), some (aI (nI k - nI 1))] [] (mk S) Q := by
  have ho0 := ho
  obtain ⟨j1, j2, j3⟩ := ho
  intro k
  induction k with
  | zero =>
    intro S l _ _ hl _ h
    refine G_iload_n (pc := 7) dX3_writeTyped_7 rfl rfl ?_
    refine T_if_lt (pc := 8) (tgt := 31) dX3_writeTyped_8 (by decide) (fun c8 => ?_) (fun c8 => absurd c8 (by decide))
    refine S_vret (pc := 31) dX3_writeTyped_31 rfl ?_
    exact h S Fr.rf (by rw [show l ++ typF p 0 = l by simp [typF]]; exact hl)
  | succ k ih =>
    intro S l hk hb hl hlen h
    rw [show nI (k + 1) - nI 1 = nI k from by rw [pk_sub (by omega)]; congr 1]
    refine G_iload_n (pc := 7) dX3_writeTyped_7 rfl rfl ?_
    refine N_if_lt (pc := 8) (tgt := 31) dX3_writeTyped_8 (by decide) (by omega) ?_
    refine G_aload_n (pc := 11) dX3_writeTyped_11 rfl rfl ?_
    refine G_iload_n (pc := 12) dX3_writeTyped_12 rfl rfl ?_
    refine G_bipush (pc := 13) (v := nI 8) dX3_writeTyped_13 (by decide) ?_
    refine G_iload_n (pc := 15) dX3_writeTyped_15 rfl rfl ?_
    refine N_imul (pc := 16) dX3_writeTyped_16 ?_
    refine G_ishr (pc := 17) dX3_writeTyped_17 ?_
    refine G_sipush (pc := 18) (v := nI 255) dX3_writeTyped_18 (by decide) ?_
    refine G_iand (pc := 21) dX3_writeTyped_21 ?_
    rw [typ_sh hp (by omega)]
    refine S_callV (av := [_]) (pc := 22) (z := mX4_add) (ci := 3) dX3_writeTyped_22 zX4_add lX3_writeTyped_44 rfl (by first | rfl | assumption) rfl rfl (sX4_add ho0 hl (by omega) (isBy_nI (hb k (by omega))) ⟨_, rfl, ?_⟩)
    refine G_iinc (pc := 25) dX3_writeTyped_25 rfl (dec1 _) (by decide) rfl ?_
    refine G_goto (pc := 28) (tgt := 7) dX3_writeTyped_28 (by decide) ?_
    have g0 : Fr (rwX o) (rwA o) S (upX (upI S (o + 1) l.length (typB p k)) o 1 (nI (l.length + 1))) := Fr.tr (Fr.upI rfl) (Fr.upX ⟨rfl, rfl⟩)
    refine ih _ (l ++ [typB p k]) (by omega) (fun i hi => hb i (by omega)) hl.push (by simp; omega) (fun S' h1 h2 => h S' (g0.tr h1) (by rw [show l ++ typF p (k + 1) = l ++ [typB p k] ++ typF p k by simp [typF]]; exact h2))
set_option maxRecDepth 100000 in
set_option maxHeartbeats 4000000 in
theorem sX3_writeTyped {p o m : Nat} {l : List Int32} (ho : RwK o m) (hp : 16777216 ≤ p ∧ p < 67108864) (hb : byPc p) (hl : RwIs S o l) (hlen : l.length + 3 ≤ m) (h : ∀ S', Fr (rwX o) (rwA o) S S' → RwIs S' o (l ++ typF p (p / 16777216)) → Q none (mk S')) : CT sc mX3_writeTyped [aI (nI p), aR o] (mk S) Q := by
  refine S_of (by decide) rfl ?_
  show G sc mX3_writeTyped 0 [some (aI (nI p)), some (aR o), none] [] (mk S) Q
  refine G_iload_n (pc := 0) dX3_writeTyped_0 rfl rfl ?_
  refine G_ldc (pc := 1) dX3_writeTyped_1 kX3_19 ?_
  rw [k19]
  refine N_idiv (pc := 3) dX3_writeTyped_3 (by omega) ?_
  refine G_iconst (pc := 4) (v := nI 1) dX3_writeTyped_4 (by decide) ?_
  refine G_isub (pc := 5) dX3_writeTyped_5 ?_
  refine G_istore_n (pc := 6) dX3_writeTyped_6 rfl (by decide) rfl ?_
  exact writeTyped_lp ho hp.2 (p / 16777216) S l (by omega) (hb hp.1) hl (by omega) h
set_option maxRecDepth 100000 in
set_option maxHeartbeats 4000000 in
theorem makeOf_lp {a x o n : Nat} {b : Nat → Int32} (ha : PgK a) (hx : ThK x) (ho : RwK o 35) (hox : o < x) (hao : a + 1 < o ∨ o + 1 < a) (hn : n ≤ 16) (hby : ∀ j, j < n → isBy (b j)) :
    ∀ (r : List Nat) (k m : Nat) (S : ST) (l : List Int32), k + r.length ≤ 3 → S.1 a 1 = nI (k + r.length) → (∀ i, i < r.length → S.2.1 (a + 1) (k + i) = nI (r.getD i 0)) → okJ m r → PbOk r → l.length ≤ m → RwIs S o l → LnIs S x b n → PlIs S x b n →
      (∀ S' q, runP b n r = some q → Fr (rwX o) (rwA o) S S' → RwIs S' o (l ++ q) → Q (some (aI (bI true))) (mk S')) → (runP b n r = none → ∀ S', Fr (rwX o) (rwA o) S S' → RwIs S' o [] → Q (some (aI (bI false))) (mk S')) →
      G sc mX3_makeOf 6 [some (aR a), some (aR x), some (aR o), some (aI (nI k))] [] (mk S) Q := by
  obtain ⟨k1, k2⟩ := ha
  have hx0 := hx
  obtain ⟨x0, x1, x2, x3, x4, x5, x6⟩ := hx
  have ho0 := ho
  obtain ⟨j1, j2, j3⟩ := ho
  intro r
  induction r with
  | nil =>
    intro k m S l hk hsz hps hok hpb hlm hl hln hpl h1 h0
    have hsz : S.1 a 1 = nI k := hsz
    have hk : k ≤ 3 := hk
    refine G_iload_n (pc := 6) dX3_makeOf_6 rfl rfl ?_
    refine G_aload_n (pc := 7) dX3_makeOf_7 rfl rfl ?_
    refine S_getI (pc := 8) dX3_makeOf_8 fX3_15 rfl (by first | rfl | assumption) rfl ?_
    rw [hsz]
    refine N_icmp_ge (pc := 11) (tgt := 64) dX3_makeOf_11 (by decide) (by omega) (fun c11 => ?_) (fun c11 => absurd c11 (by omega))
    refine G_iconst (pc := 64) (v := nI 1) dX3_makeOf_64 (by decide) ?_
    refine S_zret (pc := 65) dX3_makeOf_65 rfl rfl ?_
    exact h1 S [] rfl Fr.rf (by rw [List.append_nil]; exact hl)
  | cons p ps ih =>
    intro k m S l hk hsz hps hok hpb hlm hl hln hpl h1 h0
    have hlen : k + (ps.length + 1) ≤ 3 := hk
    have hsz : S.1 a 1 = nI (k + (ps.length + 1)) := hsz
    obtain ⟨hm, hp, hok2⟩ := hok
    have hp0 : S.2.1 (a + 1) k = nI p := hps 0 (by simp)
    have hp2 := isPc_lt hp
    have go : ∀ S' q, pcL b n p = some q → Fr (rwX o) (rwA o) S S' → RwIs S' o (l ++ q) → G sc mX3_makeOf 58 [some (aR a), some (aR x), some (aR o), some (aI (nI k))] [] (mk S') Q := by
      intro S' q g1 g2 g3
      have gl := pc_len hp hn g1
      have ea : ∀ i, S'.2.1 (a + 1) i = S.2.1 (a + 1) i := g2.2.1 _ (by show ¬ _ = _; omega)
      refine N_iinc (pc := 58) dX3_makeOf_58 rfl (by decide) rfl ?_
      refine G_goto (pc := 61) (tgt := 6) dX3_makeOf_61 (by decide) ?_
      refine ih (k + 1) _ S' (l ++ q) (by omega) ?_ (fun i hi => ?_) hok2 (fun z hz => hpb z (List.mem_cons_of_mem _ hz)) (by simp; omega) g3 (hln.fr g2 (by show ¬ (_ ∧ _); omega) (by show ¬ _ = _; omega)) (hpl.fr g2 (by show ¬ _ = _; omega)) (fun S2 q2 e1 e2 e3 => ?_) (fun e1 S2 e2 e3 => ?_)
      · rw [g2.1 a 1 (by show ¬ (_ ∧ _); omega), hsz]
        congr 1
        omega
      · rw [ea, show k + 1 + i = k + (i + 1) by omega, hps (i + 1) (by simp; omega)]
        simp
      · exact h1 S2 (q ++ q2) (by unfold runP; rw [g1]; simp only [e1]; rfl) (g2.tr e2) (by rw [← List.append_assoc]; exact e3)
      · exact h0 (by unfold runP; rw [g1]; simp only [e1]; rfl) S2 (g2.tr e2) e3
    refine G_iload_n (pc := 6) dX3_makeOf_6 rfl rfl ?_
    refine G_aload_n (pc := 7) dX3_makeOf_7 rfl rfl ?_
    refine S_getI (pc := 8) dX3_makeOf_8 fX3_15 rfl (by first | rfl | assumption) rfl ?_
    rw [hsz]
    refine N_icmp_ge (pc := 11) (tgt := 64) dX3_makeOf_11 (by decide) (by omega) (fun c11 => absurd c11 (by omega)) (fun c11 => ?_)
    refine G_aload_n (pc := 14) dX3_makeOf_14 rfl rfl ?_
    refine S_getR (pc := 15) (b := a + 1) dX3_makeOf_15 fX3_9 rfl rfl (by first | rfl | assumption) rfl rfl ?_
    refine G_iload_n (pc := 18) dX3_makeOf_18 rfl rfl ?_
    refine N_iald (pc := 19) dX3_makeOf_19 (by first | rfl | assumption) (by first | rfl | assumption) (by omega) ?_
    rw [hp0]
    refine G_ldc (pc := 20) dX3_makeOf_20 kX3_19 ?_
    rw [k19]
    refine N_icmp_lt (pc := 22) (tgt := 38) dX3_makeOf_22 (by decide) (by omega) (fun c22 => ?_) (fun c22 => ?_)
    · skip
      refine G_aload_n (pc := 38) dX3_makeOf_38 rfl rfl ?_
      refine G_aload_n (pc := 39) dX3_makeOf_39 rfl rfl ?_
      refine S_getR (pc := 40) (b := a + 1) dX3_makeOf_40 fX3_9 rfl rfl (by first | rfl | assumption) rfl rfl ?_
      refine G_iload_n (pc := 43) dX3_makeOf_43 rfl rfl ?_
      refine N_iald (pc := 44) dX3_makeOf_44 (by first | rfl | assumption) (by first | rfl | assumption) (by omega) ?_
      rw [hp0]
      refine G_aload_n (pc := 45) dX3_makeOf_45 rfl rfl ?_
      refine S_callV (av := [_, _]) (pc := 46) (z := mX8_cutInto) (ci := 7) dX3_makeOf_46 zX8_cutInto lX3_makeOf_38 rfl (by first | rfl | assumption) rfl rfl (sX8_cutInto hx0 ho0 hox hn (by rcases hp with hp | hp <;> omega) hln hpl hby hl (by omega) (fun S1 q g1 g2 g3 => ⟨_, rfl, ?_⟩) (fun g1 => ⟨_, rfl, ?_⟩))
      · skip
        refine B_if_ne (pc := 49) (tgt := 58) dX3_makeOf_49 (by decide) (fun c49 => ?_) (fun c49 => absurd c49 (by decide))
        exact go S1 q g1 g2 g3
      skip
      refine B_if_ne (pc := 49) (tgt := 58) dX3_makeOf_49 (by decide) (fun c49 => absurd c49 (by decide)) (fun c49 => ?_)
      refine G_aload_n (pc := 52) dX3_makeOf_52 rfl rfl ?_
      refine S_callV (av := []) (pc := 53) (z := mX4_clear) (ci := 3) dX3_makeOf_53 zX4_clear lX3_makeOf_31 rfl (by first | rfl | assumption) rfl rfl (sX4_clear ho0 ⟨_, rfl, ?_⟩)
      refine G_iconst (pc := 56) (v := nI 0) dX3_makeOf_56 (by decide) ?_
      refine S_zret (pc := 57) dX3_makeOf_57 rfl rfl ?_
      exact h0 (by unfold runP; rw [g1]) _ (Fr.upX ⟨rfl, rfl⟩) RowIs.nil
    · skip
      refine G_aload_n (pc := 25) dX3_makeOf_25 rfl rfl ?_
      refine S_getR (pc := 26) (b := a + 1) dX3_makeOf_26 fX3_9 rfl rfl (by first | rfl | assumption) rfl rfl ?_
      refine G_iload_n (pc := 29) dX3_makeOf_29 rfl rfl ?_
      refine N_iald (pc := 30) dX3_makeOf_30 (by first | rfl | assumption) (by first | rfl | assumption) (by omega) ?_
      rw [hp0]
      refine G_aload_n (pc := 31) dX3_makeOf_31 rfl rfl ?_
      refine S_callS (av := [_, _]) (pc := 32) (z := mX3_writeTyped) dX3_makeOf_32 zX3_writeTyped lX3_makeOf_34 rfl (sX3_writeTyped ho0 (by omega) (hpb p List.mem_cons_self) hl (by omega) (fun S1 w1 w2 => ⟨_, rfl, ?_⟩))
      refine G_goto (pc := 35) (tgt := 58) dX3_makeOf_35 (by decide) ?_
      exact go S1 _ (pcL_typ (by omega)) w1 w2
set_option maxRecDepth 100000 in
set_option maxHeartbeats 4000000 in
theorem sX3_makeOf {a x o n : Nat} {b : Nat → Int32} {ps : List Nat} (ha : PgK a) (hx : ThK x) (ho : RwK o 35) (hox : o < x) (hao : a + 1 < o ∨ o + 1 < a) (hn : n ≤ 16) (hby : ∀ j, j < n → isBy (b j)) (hps : PgIs S a ps) (hok : okL 0 ps) (hpb : PbOk ps) (hln : LnIs S x b n) (hpl : PlIs S x b n)
    (h1 : ∀ S' q, runP b n ps = some q → Fr (rwX o) (rwA o) S S' → RwIs S' o q → Q (some (aI (bI true))) (mk S')) (h0 : runP b n ps = none → ∀ S', Fr (rwX o) (rwA o) S S' → RwIs S' o [] → Q (some (aI (bI false))) (mk S')) : CT sc mX3_makeOf [aR a, aR x, aR o] (mk S) Q := by
  refine S_of (by decide) rfl ?_
  show G sc mX3_makeOf 0 [some (aR a), some (aR x), some (aR o), none] [] (mk S) Q
  have F0 : Fr (rwX o) (rwA o) S (upX S o 1 (nI 0)) := Fr.upX ⟨rfl, rfl⟩
  obtain ⟨p1, p2, p3⟩ := hps
  have ho0 := ho
  obtain ⟨j1, j2, j3⟩ := ho
  refine G_aload_n (pc := 0) dX3_makeOf_0 rfl rfl ?_
  refine S_callV (av := []) (pc := 1) (z := mX4_clear) (ci := 3) dX3_makeOf_1 zX4_clear lX3_makeOf_31 rfl (by first | rfl | assumption) rfl rfl (sX4_clear ho0 ⟨_, rfl, ?_⟩)
  refine G_iconst (pc := 4) (v := nI 0) dX3_makeOf_4 (by decide) ?_
  refine G_istore_n (pc := 5) dX3_makeOf_5 rfl (by decide) rfl ?_
  refine makeOf_lp ha hx ho0 hox hao hn hby ps 0 0 (upX S o 1 (nI 0)) [] (by omega) ?_ (fun i hi => by rw [show 0 + i = i by omega]; exact p3 i hi) (okJ_of hok p2) hpb (by simp) RowIs.nil (hln.fr F0 (by show ¬ (_ ∧ _); omega) (by show ¬ _ = _; omega)) (hpl.fr F0 (by show ¬ _ = _; omega)) (fun S' q e1 e2 e3 => h1 S' q e1 (F0.tr e2) e3) (fun e1 S' e2 e3 => h0 e1 S' (F0.tr e2) e3)
  rw [upX_n (by omega), p1, Nat.zero_add]
end C3
