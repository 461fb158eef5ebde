/-! the model: reading a text -/
theorem upX_u {S : ST} {a j : Nat} {v w : Int32} : upX (upX S a j v) a j w = upX S a j w := by
  unfold upX
  refine Prod.ext ?_ rfl
  funext b i
  dsimp only
  by_cases h : b = a ∧ i = j
  · rw [if_pos h, if_pos h]
  · rw [if_neg h, if_neg h, if_neg h]
/-- blanks are passed over -/
def skF (T : List Nat) : Nat → Nat → Nat
  | 0, a => a
  | f + 1, a => if a < T.length ∧ T.getD a 0 = 32 then skF T f (a + 1) else a
def sk (T : List Nat) (a : Nat) : Nat := skF T T.length a
/-- the next byte that is no blank; 0 at the end -/
def lk (T : List Nat) (a : Nat) : Nat := if sk T a < T.length then T.getD (sk T a) 0 else 0
def TpT (S : ST) (T : List Nat) : Prop := (S.1 389 9 = nI T.length ∧ ∀ a, a < T.length → S.2.1 396 a = nI (T.getD a 0)) ∧ T.length ≤ 60 ∧ ∀ a, a < T.length → 32 ≤ T.getD a 0 ∧ T.getD a 0 ≤ 126
theorem skF_le {T : List Nat} : ∀ f a, a ≤ T.length → skF T f a ≤ T.length
  | 0, a, h => h
  | f + 1, a, h => by
    unfold skF
    split
    · exact skF_le f (a + 1) (by omega)
    · exact h
theorem skF_ge {T : List Nat} : ∀ f a, a ≤ skF T f a
  | 0, a => Nat.le_refl _
  | f + 1, a => by
    unfold skF
    split
    · exact Nat.le_trans (Nat.le_succ a) (skF_ge f (a + 1))
    · exact Nat.le_refl _
theorem sk_le {T : List Nat} {a : Nat} (h : a ≤ T.length) : sk T a ≤ T.length := skF_le _ a h
theorem sk_ge {T : List Nat} {a : Nat} : a ≤ sk T a := skF_ge _ a
/-- skipping once is enough -/
theorem skF_id {T : List Nat} : ∀ f g a, a ≤ T.length → T.length - a ≤ f → skF T g (skF T f a) = skF T f a
  | 0, g, a, h1, h2 => by
    show skF T g a = a
    cases g with
    | zero => rfl
    | succ g => unfold skF; rw [if_neg (by omega)]
  | f + 1, g, a, h1, h2 => by
    by_cases h : a < T.length ∧ T.getD a 0 = 32
    · have e : skF T (f + 1) a = skF T f (a + 1) := by conv => lhs; unfold skF; rw [if_pos h]
      rw [e]
      exact skF_id f g (a + 1) (by omega) (by omega)
    · have e : skF T (f + 1) a = a := by conv => lhs; unfold skF; rw [if_neg h]
      rw [e]
      cases g with
      | zero => rfl
      | succ g => unfold skF; rw [if_neg h]
theorem sk_sk {T : List Nat} {a : Nat} (h : a ≤ T.length) : sk T (sk T a) = sk T a := skF_id _ _ a h (by omega)
theorem lk_sk {T : List Nat} {a : Nat} (h : a ≤ T.length) : lk T (sk T a) = lk T a := by unfold lk; rw [sk_sk h]
theorem lk_b {S : ST} {T : List Nat} (hT : TpT S T) (a : Nat) : lk T a ≤ 126 ∧ (lk T a = 0 ↔ ¬ sk T a < T.length) := by
  unfold lk
  split
  · rename_i h
    have := hT.2.2 _ h
    omega
  · omega
def nxI (T : List Nat) (a : Nat) : Int32 := if lk T a = 0 then -1 else nI (lk T a)
section M38
variable {sc : SC} {S : ST} {Q : Option AV → HM → Prop} {T : List Nat}
theorem tp_n (hT : TpT S T) {v : Int32} : (upX S 389 10 v).1 389 9 = nI T.length := (upX_n (by omega)).trans hT.1.1
theorem tp_at {v : Int32} : (upX S 389 10 v).1 389 10 = v := upX_s
theorem tp_a (hT : TpT S T) {a : Nat} (h : a < T.length) {v : Int32} : (upX S 389 10 v).2.1 396 a = nI (T.getD a 0) := hT.1.2 a h
set_option maxRecDepth 100000 in
set_option maxHeartbeats 4000000 in
theorem next_e (hT : TpT S T) {a : Nat} (ha : a ≤ T.length) (h : Q (some (aI (if a < T.length then nI (T.getD a 0) else -1))) (mk (upX S 389 10 (nI a)))) : G sc mX10_next 38 [some (aR 389)] [] (mk (upX S 389 10 (nI a))) Q := by
  have hl := hT.2.1
  refine G_aload_n (pc := 38) dX10_next_38 rfl rfl ?_
  refine S_getI (pc := 39) dX10_next_39 fX10_288 rfl (by first | rfl | assumption) rfl ?_
  rw [tp_at]
  refine G_aload_n (pc := 42) dX10_next_42 rfl rfl ?_
  refine S_getI (pc := 43) dX10_next_43 fX10_96 rfl (by first | rfl | assumption) rfl ?_
  rw [tp_n hT]
  refine N_icmp_ge (pc := 46) (tgt := 61) dX10_next_46 (by decide) (by omega) (fun c46 => ?_) (fun c46 => ?_)
  · skip
    refine G_iconst (pc := 61) (v := (-1)) dX10_next_61 (by decide) ?_
    refine S_iret (pc := 62) dX10_next_62 rfl ?_
    first | exact q_i h (by rw [if_pos (by omega)]) | exact q_i h (by rw [if_neg (by omega)])
  · skip
    refine G_aload_n (pc := 49) dX10_next_49 rfl rfl ?_
    refine S_getR (pc := 50) (b := 396) dX10_next_50 fX10_28 rfl rfl (by first | rfl | assumption) rfl rfl ?_
    refine G_aload_n (pc := 53) dX10_next_53 rfl rfl ?_
    refine S_getI (pc := 54) dX10_next_54 fX10_288 rfl (by first | rfl | assumption) rfl ?_
    rw [tp_at]
    refine N_iald (pc := 57) dX10_next_57 (by first | rfl | assumption) (by first | rfl | assumption) (by omega) ?_
    rw [tp_a hT (by omega)]
    refine G_goto (pc := 58) (tgt := 62) dX10_next_58 (by decide) ?_
    refine S_iret (pc := 62) dX10_next_62 rfl ?_
    first | exact q_i h (by rw [if_pos (by omega)]) | exact q_i h (by rw [if_neg (by omega)])
set_option maxRecDepth 100000 in
set_option maxHeartbeats 4000000 in
theorem next_lp (hT : TpT S T) : ∀ (f a : Nat), a ≤ T.length → T.length - a ≤ f → Q (some (aI (if skF T f a < T.length then nI (T.getD (skF T f a) 0) else -1))) (mk (upX S 389 10 (nI (skF T f a)))) → G sc mX10_next 0 [some (aR 389)] [] (mk (upX S 389 10 (nI a))) Q := by
  have hl := hT.2.1
  intro f
  induction f with
  | zero =>
    intro a h1 h2 h
    refine G_aload_n (pc := 0) dX10_next_0 rfl rfl ?_
    refine S_getI (pc := 1) dX10_next_1 fX10_288 rfl (by first | rfl | assumption) rfl ?_
    rw [tp_at]
    refine G_aload_n (pc := 4) dX10_next_4 rfl rfl ?_
    refine S_getI (pc := 5) dX10_next_5 fX10_96 rfl (by first | rfl | assumption) rfl ?_
    rw [tp_n hT]
    refine N_icmp_ge (pc := 8) (tgt := 38) dX10_next_8 (by decide) (by omega) (fun c8 => ?_) (fun c8 => absurd c8 (by omega))
    exact next_e hT h1 h
  | succ f ih =>
    intro a h1 h2 h
    by_cases hb : a < T.length ∧ T.getD a 0 = 32
    · have e : skF T (f + 1) a = skF T f (a + 1) := by conv => lhs; unfold skF; rw [if_pos hb]
      rw [e] at h
      refine G_aload_n (pc := 0) dX10_next_0 rfl rfl ?_
      refine S_getI (pc := 1) dX10_next_1 fX10_288 rfl (by first | rfl | assumption) rfl ?_
      rw [tp_at]
      refine G_aload_n (pc := 4) dX10_next_4 rfl rfl ?_
      refine S_getI (pc := 5) dX10_next_5 fX10_96 rfl (by first | rfl | assumption) rfl ?_
      rw [tp_n hT]
      refine N_icmp_ge (pc := 8) (tgt := 38) dX10_next_8 (by decide) (by omega) (fun c8 => absurd c8 (by omega)) (fun c8 => ?_)
      refine G_aload_n (pc := 11) dX10_next_11 rfl rfl ?_
      refine S_getR (pc := 12) (b := 396) dX10_next_12 fX10_28 rfl rfl (by first | rfl | assumption) rfl rfl ?_
      refine G_aload_n (pc := 15) dX10_next_15 rfl rfl ?_
      refine S_getI (pc := 16) dX10_next_16 fX10_288 rfl (by first | rfl | assumption) rfl ?_
      rw [tp_at]
      refine N_iald (pc := 19) dX10_next_19 (by first | rfl | assumption) (by first | rfl | assumption) (by omega) ?_
      rw [tp_a hT hb.1]
      refine G_bipush (pc := 20) (v := nI 32) dX10_next_20 (by decide) ?_
      refine N_icmp_ne (pc := 22) (tgt := 38) dX10_next_22 (by decide) (by omega) (fun c22 => absurd c22 (by omega)) (fun c22 => ?_)
      refine G_aload_n (pc := 25) dX10_next_25 rfl rfl ?_
      refine G_dup (pc := 26) dX10_next_26 rfl ?_
      refine S_getI (pc := 27) dX10_next_27 fX10_288 rfl (by first | rfl | assumption) rfl ?_
      rw [tp_at]
      refine G_iconst (pc := 30) (v := nI 1) dX10_next_30 (by decide) ?_
      refine N_iadd (pc := 31) dX10_next_31 ?_
      refine S_putI (pc := 32) dX10_next_32 fX10_288 (by decide) rfl (by first | rfl | assumption) rfl ?_
      refine G_goto (pc := 35) (tgt := 0) dX10_next_35 (by decide) ?_
      rw [upX_u]
      exact ih (a + 1) (by omega) (by omega) h
    · have e : skF T (f + 1) a = a := by conv => lhs; unfold skF; rw [if_neg hb]
      rw [e] at h
      by_cases hlt : a < T.length
      · have hb2 := hT.2.2 a hlt
        refine G_aload_n (pc := 0) dX10_next_0 rfl rfl ?_
        refine S_getI (pc := 1) dX10_next_1 fX10_288 rfl (by first | rfl | assumption) rfl ?_
        rw [tp_at]
        refine G_aload_n (pc := 4) dX10_next_4 rfl rfl ?_
        refine S_getI (pc := 5) dX10_next_5 fX10_96 rfl (by first | rfl | assumption) rfl ?_
        rw [tp_n hT]
        refine N_icmp_ge (pc := 8) (tgt := 38) dX10_next_8 (by decide) (by omega) (fun c8 => absurd c8 (by omega)) (fun c8 => ?_)
        refine G_aload_n (pc := 11) dX10_next_11 rfl rfl ?_
        refine S_getR (pc := 12) (b := 396) dX10_next_12 fX10_28 rfl rfl (by first | rfl | assumption) rfl rfl ?_
        refine G_aload_n (pc := 15) dX10_next_15 rfl rfl ?_
        refine S_getI (pc := 16) dX10_next_16 fX10_288 rfl (by first | rfl | assumption) rfl ?_
        rw [tp_at]
        refine N_iald (pc := 19) dX10_next_19 (by first | rfl | assumption) (by first | rfl | assumption) (by omega) ?_
        rw [tp_a hT hlt]
        refine G_bipush (pc := 20) (v := nI 32) dX10_next_20 (by decide) ?_
        refine N_icmp_ne (pc := 22) (tgt := 38) dX10_next_22 (by decide) (by omega) (fun c22 => ?_) (fun c22 => absurd c22 (by omega))
        exact next_e hT h1 h
      · skip
        refine G_aload_n (pc := 0) dX10_next_0 rfl rfl ?_
        refine S_getI (pc := 1) dX10_next_1 fX10_288 rfl (by first | rfl | assumption) rfl ?_
        rw [tp_at]
        refine G_aload_n (pc := 4) dX10_next_4 rfl rfl ?_
        refine S_getI (pc := 5) dX10_next_5 fX10_96 rfl (by first | rfl | assumption) rfl ?_
        rw [tp_n hT]
        refine N_icmp_ge (pc := 8) (tgt := 38) dX10_next_8 (by decide) (by omega) (fun c8 => ?_) (fun c8 => absurd c8 (by omega))
        exact next_e hT h1 h
set_option maxRecDepth 100000 in
set_option maxHeartbeats 4000000 in
theorem sX10_next (hT : TpT S T) {a : Nat} (ha : a ≤ T.length) (h : Q (some (aI (nxI T a))) (mk (upX S 389 10 (nI (sk T a))))) : CT sc mX10_next [aR 389] (mk (upX S 389 10 (nI a))) Q := by
  refine S_of (by decide) rfl ?_
  show G sc mX10_next 0 [some (aR 389)] [] (mk (upX S 389 10 (nI a))) Q
  refine next_lp hT T.length a ha (by omega) ?_
  refine q_i h ?_
  have h2 := (lk_b hT a).2
  unfold nxI lk sk at *
  split
  · rename_i q
    rw [if_pos q] at h2
    rw [if_neg (fun z => h2.mp z q)]
  · simp
/-- which of the signs ws this byte is -/
def fnI (c : Nat) : List Nat → Nat → Option Nat → Option Nat
  | [], _, f => f
  | x :: r, k, f => fnI c r (k + 1) (if c = x then some k else f)
def on1 (T : List Nat) (a : Nat) (ws : List Nat) : Option Nat := fnI (lk T a) ws 0 none
def onA (T : List Nat) (a : Nat) (ws : List Nat) : Nat := sk T a + (if on1 T a ws = none then 0 else 1)
theorem fnI_k {c : Nat} : ∀ (ws : List Nat) (k m : Nat) (f : Option Nat), k + ws.length ≤ m → (∀ x, f = some x → x < m) → ∀ x, fnI c ws k f = some x → x < m
  | [], _, _, _, _, h, x, e => h x e
  | y :: r, k, m, f, h1, h2, x, e => by
    have h1 : k + (r.length + 1) ≤ m := h1
    refine fnI_k r (k + 1) m _ (by omega) (fun z hz => ?_) x e
    split at hz
    · cases hz; omega
    · exact h2 z hz
theorem on1_lt {T : List Nat} {a : Nat} {ws : List Nat} {x : Nat} (h : on1 T a ws = some x) : x < ws.length := fnI_k ws 0 ws.length none (by omega) (fun z hz => by cases hz) x h
theorem fnI_0 : ∀ (ws : List Nat) (k : Nat) (f : Option Nat), (∀ w ∈ ws, w ≠ 0) → fnI 0 ws k f = f
  | [], _, _, _ => rfl
  | y :: r, k, f, h => by
    unfold fnI
    rw [if_neg (fun e => h y List.mem_cons_self e.symm), fnI_0 r (k + 1) f (fun w hw => h w (List.mem_cons_of_mem _ hw))]
theorem on1_0 {S : ST} {T : List Nat} (hT : TpT S T) {a : Nat} {ws : List Nat} (hw : ∀ w ∈ ws, w ≠ 0) {x : Nat} (h : on1 T a ws = some x) : sk T a < T.length := by
  rcases Nat.lt_or_ge (sk T a) T.length with q | q
  · exact q
  · have := (lk_b hT a).2.mpr (by omega)
    unfold on1 at h
    rw [this, fnI_0 ws 0 none hw] at h
    cases h
theorem onA_le {S : ST} {T : List Nat} (hT : TpT S T) {a : Nat} {ws : List Nat} (ha : a ≤ T.length) (hw : ∀ w ∈ ws, w ≠ 0) : onA T a ws ≤ T.length := by
  unfold onA
  rcases h : on1 T a ws with _ | x
  · simp; exact sk_le ha
  · have := on1_0 hT hw h
    simp; omega
set_option maxRecDepth 100000 in
set_option maxHeartbeats 4000000 in
theorem oneOf_lp {M : ST} {w : Int64} {n c : Nat} {x : Int32} (hn : n ≤ 4) (hx : x.toInt = c ∨ (x.toInt = -1 ∧ c = 0)) (h : ∀ (r : List Nat) (f : Option Nat), True → True) :
    ∀ (r : List Nat) (k : Nat) (f : Option Nat), k + r.length = n → (∀ i, i < r.length → 1 ≤ r.getD i 0 ∧ r.getD i 0 ≤ 126 ∧ ((w >>> ((nI (8 * (n - 1 - (k + i)))).toInt64 &&& 63)) &&& 255) = lN (r.getD i 0)) →
      G sc mX10_oneOf 55 [some (aR 389), some (aL w), none, some (aI (nI n)), some (aI x), some (aI (midI (fnI c r k f))), some (aI (nI n))] [] (mk M) Q →
      G sc mX10_oneOf 12 [some (aR 389), some (aL w), none, some (aI (nI n)), some (aI x), some (aI (midI f)), some (aI (nI k))] [] (mk M) Q := by
  intro r
  induction r with
  | nil =>
    intro k f hk _ h
    have hk : k + 0 = n := hk
    have e : k = n := by omega
    subst e
    refine G_iload (pc := 12) dX10_oneOf_12 rfl ?_
    refine G_iload_n (pc := 14) dX10_oneOf_14 rfl rfl ?_
    refine N_icmp_ge (pc := 15) (tgt := 55) dX10_oneOf_15 (by decide) (by omega) (fun c15 => ?_) (fun c15 => absurd c15 (by omega))
    exact h
  | cons y r ih =>
    intro k f hk hw h
    have hk : k + (r.length + 1) = n := hk
    have h0 := hw 0 (by simp)
    have h0' : 1 ≤ y ∧ y ≤ 126 ∧ ((w >>> ((nI (8 * (n - 1 - k))).toInt64 &&& 63)) &&& 255) = lN y := h0
    have K : ∀ f', fnI c (y :: r) k f = fnI c r (k + 1) f' → G sc mX10_oneOf 12 [some (aR 389), some (aL w), none, some (aI (nI n)), some (aI x), some (aI (midI f')), some (aI (nI (k + 1)))] [] (mk M) Q := fun f' he => ih (k + 1) f' (by omega) (fun i hi => by
      have := hw (i + 1) (by simp; omega)
      rw [show k + (i + 1) = k + 1 + i by omega] at this
      simpa using this) (by rw [← he]; exact h)
    have e0 : fnI c (y :: r) k f = fnI c r (k + 1) (if c = y then some k else f) := rfl
    refine G_iload (pc := 12) dX10_oneOf_12 rfl ?_
    refine G_iload_n (pc := 14) dX10_oneOf_14 rfl rfl ?_
    refine N_icmp_ge (pc := 15) (tgt := 55) dX10_oneOf_15 (by decide) (by omega) (fun c15 => absurd c15 (by omega)) (fun c15 => ?_)
    refine G_iload (pc := 18) dX10_oneOf_18 rfl ?_
    refine G_i2l (pc := 20) dX10_oneOf_20 ?_
    refine G_lload_n (pc := 21) dX10_oneOf_21 rfl rfl ?_
    refine G_bipush (pc := 22) (v := nI 8) dX10_oneOf_22 (by decide) ?_
    refine G_iload_n (pc := 24) dX10_oneOf_24 rfl rfl ?_
    refine G_iconst (pc := 25) (v := nI 1) dX10_oneOf_25 (by decide) ?_
    refine N_isub (pc := 26) dX10_oneOf_26 (by omega) ?_
    refine G_iload (pc := 27) dX10_oneOf_27 rfl ?_
    refine N_isub (pc := 29) dX10_oneOf_29 (by omega) ?_
    refine N_imul (pc := 30) dX10_oneOf_30 ?_
    refine G_lshr (pc := 31) dX10_oneOf_31 ?_
    refine G_ldc2 (pc := 32) dX10_oneOf_32 kX10_90 ?_
    refine G_land (pc := 35) dX10_oneOf_35 ?_
    rw [h0'.2.2]
    refine G_lcmp (pc := 36) dX10_oneOf_36 ?_
    refine T_if_ne (pc := 37) (tgt := 45) dX10_oneOf_37 (by decide) (fun c37 => ?_) (fun c37 => ?_)
    · skip
      have c37' : ¬ c = y := fun q => c37 (by rw [show lg_cmp x.toInt64 (lN y) = 0 from lgc_eq.mpr (by rw [Int32.toInt_toInt64, lN_toInt (by omega)]; rcases hx with hx | hx <;> omega)]; rfl)
      refine G_iload (pc := 45) dX10_oneOf_45 rfl ?_
      refine G_istore (pc := 47) dX10_oneOf_47 (by decide) rfl ?_
      refine N_iinc (pc := 49) dX10_oneOf_49 rfl (by decide) rfl ?_
      refine G_goto (pc := 52) (tgt := 12) dX10_oneOf_52 (by decide) ?_
      first | exact K f (by rw [e0, if_neg c37']) | exact K (some k) (by rw [e0, if_pos c37'])
    · skip
      have c37' : c = y := by
        have := lgc_eq.mp (Int32.toInt_inj.mp c37)
        rw [Int32.toInt_toInt64, lN_toInt (by omega)] at this
        rcases hx with hx | hx <;> omega
      refine G_iload (pc := 40) dX10_oneOf_40 rfl ?_
      refine G_goto (pc := 42) (tgt := 47) dX10_oneOf_42 (by decide) ?_
      refine G_istore (pc := 47) dX10_oneOf_47 (by decide) rfl ?_
      refine N_iinc (pc := 49) dX10_oneOf_49 rfl (by decide) rfl ?_
      refine G_goto (pc := 52) (tgt := 12) dX10_oneOf_52 (by decide) ?_
      first | exact K f (by rw [e0, if_neg c37']) | exact K (some k) (by rw [e0, if_pos c37'])
set_option maxRecDepth 100000 in
set_option maxHeartbeats 4000000 in
theorem sX10_oneOf (hT : TpT S T) {a : Nat} {w : Int64} {ws : List Nat} (ha : a ≤ T.length) (hn : ws.length ≤ 4) (hw : ∀ i, i < ws.length → 1 ≤ ws.getD i 0 ∧ ws.getD i 0 ≤ 126 ∧ ((w >>> ((nI (8 * (ws.length - 1 - i))).toInt64 &&& 63)) &&& 255) = lN (ws.getD i 0)) (h : Q (some (aI (midI (on1 T a ws)))) (mk (upX S 389 10 (nI (onA T a ws))))) : CT sc mX10_oneOf [aR 389, aL w, aI (nI ws.length)] (mk (upX S 389 10 (nI a))) Q := by
  refine S_of (by decide) rfl ?_
  show G sc mX10_oneOf 0 [some (aR 389), some (aL w), none, some (aI (nI ws.length)), none, none, none] [] (mk (upX S 389 10 (nI a))) Q
  have hl := hT.2.1
  have hlk := lk_b hT a
  have hx : (nxI T a).toInt = lk T a ∨ ((nxI T a).toInt = -1 ∧ lk T a = 0) := by
    unfold nxI
    split
    · exact Or.inr ⟨rfl, by assumption⟩
    · exact Or.inl (nIt (by omega))
  refine G_aload_n (pc := 0) dX10_oneOf_0 rfl rfl ?_
  refine S_callV (av := []) (pc := 1) (z := mX10_next) (ci := 9) dX10_oneOf_1 zX10_next lX10_oneOf_291 rfl (by first | rfl | assumption) rfl rfl (sX10_next hT ha ⟨_, rfl, ?_⟩)
  refine G_istore (pc := 4) dX10_oneOf_4 (by decide) rfl ?_
  refine G_iconst (pc := 6) (v := (-1)) dX10_oneOf_6 (by decide) ?_
  refine G_istore (pc := 7) dX10_oneOf_7 (by decide) rfl ?_
  refine G_iconst (pc := 9) (v := nI 0) dX10_oneOf_9 (by decide) ?_
  refine G_istore (pc := 10) dX10_oneOf_10 (by decide) rfl ?_
  refine oneOf_lp (M := upX S 389 10 (nI (sk T a))) (c := lk T a) hn hx (fun _ _ _ => trivial) ws 0 none (by omega) (fun i hi => by rw [Nat.zero_add]; exact hw i hi) ?_
  have e1 : fnI (lk T a) ws 0 none = on1 T a ws := rfl
  rw [e1]
  unfold onA at h
  rcases ho : on1 T a ws with _ | k
  · rw [ho] at h
    refine G_aload_n (pc := 55) dX10_oneOf_55 rfl rfl ?_
    refine G_dup (pc := 56) dX10_oneOf_56 rfl ?_
    refine S_getI (pc := 57) dX10_oneOf_57 fX10_288 rfl (by first | rfl | assumption) rfl ?_
    rw [tp_at]
    refine G_iload (pc := 60) dX10_oneOf_60 rfl ?_
    refine T_if_ge (pc := 62) (tgt := 69) dX10_oneOf_62 (by decide) (fun c62 => absurd c62 (by decide)) (fun c62 => ?_)
    refine G_iconst (pc := 65) (v := nI 0) dX10_oneOf_65 (by decide) ?_
    refine G_goto (pc := 66) (tgt := 70) dX10_oneOf_66 (by decide) ?_
    refine N_iadd (pc := 70) dX10_oneOf_70 ?_
    refine S_putI (pc := 71) dX10_oneOf_71 fX10_288 (by decide) rfl (by first | rfl | assumption) rfl ?_
    refine G_iload (pc := 74) dX10_oneOf_74 rfl ?_
    refine S_iret (pc := 76) dX10_oneOf_76 rfl ?_
    rw [upX_u]
    exact h
  · rw [ho] at h
    have hk := on1_lt ho
    show G sc mX10_oneOf 55 [some (aR 389), some (aL w), none, some (aI (nI ws.length)), some (aI (nxI T a)), some (aI (nI k)), some (aI (nI ws.length))] [] (mk (upX S 389 10 (nI (sk T a)))) Q
    refine G_aload_n (pc := 55) dX10_oneOf_55 rfl rfl ?_
    refine G_dup (pc := 56) dX10_oneOf_56 rfl ?_
    refine S_getI (pc := 57) dX10_oneOf_57 fX10_288 rfl (by first | rfl | assumption) rfl ?_
    rw [tp_at]
    refine G_iload (pc := 60) dX10_oneOf_60 rfl ?_
    refine N_if_ge (pc := 62) (tgt := 69) dX10_oneOf_62 (by decide) (by omega) ?_
    refine G_iconst (pc := 69) (v := nI 1) dX10_oneOf_69 (by decide) ?_
    refine N_iadd (pc := 70) dX10_oneOf_70 ?_
    refine S_putI (pc := 71) dX10_oneOf_71 fX10_288 (by decide) rfl (by first | rfl | assumption) rfl ?_
    refine G_iload (pc := 74) dX10_oneOf_74 rfl ?_
    refine S_iret (pc := 76) dX10_oneOf_76 rfl ?_
    rw [upX_u]
    exact h
end M38
