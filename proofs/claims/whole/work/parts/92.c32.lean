/-! the class: TextReader -/
def TdT (S : ST) (T : List Nat) : Prop := S.1 286 1 = nI T.length ∧ ∀ a, a < T.length → S.2.1 287 a = nI (T.getD a 0)
theorem upX_id {S : ST} {a j : Nat} {v : Int32} (h : S.1 a j = v) : upX S a j v = S := by
  unfold upX
  refine Prod.ext ?_ rfl
  funext b i
  dsimp only
  split
  · rename_i q
    rw [q.1, q.2, h]
  · rfl
theorem ch16 : ∀ c : Nat, c < 127 → ((nI c).toUInt32 % 65536).toInt32 = nI c := by decide
theorem on_fe : ∀ c : Nat, c < 127 → fnI c [102, 101, 98, 97] 0 none = if c = 102 then some 0 else if c = 101 then some 1 else if c = 98 then some 2 else if c = 97 then some 3 else none := by decide
def tyE (T : List Nat) (x : Nat × Nat × Nat) : Option Nat × Nat := if x.1 = 0 ∨ x.2.2 = T.length ∨ ¬ T.getD x.2.2 0 = 34 then (none, x.2.2) else (some (16777216 * x.1 + x.2.1), x.2.2 + 1)
theorem rdT_tyE {T : List Nat} {a : Nat} : rdT T a = tyE T (tyL T 3 0 0 (a + 1)) := rfl
section C32
variable {sc : SC} {S S0 : ST} {Q : Option AV → HM → Prop} {T : List Nat}
theorem TdT.up {v : Int32} (h : TdT S T) : TdT (upX S 283 2 v) T := ⟨(upX_n (by omega)).trans h.1, h.2⟩
theorem TdT.fr {S' : ST} (h : TdT S T) (g : Fr (pgX 284) (pgA 284) S S') : TdT S' T := ⟨(g.1 _ _ (by show ¬ (_ ∧ _); omega)).trans h.1, fun a ha => (g.2.1 _ (by show ¬ _ = _; omega) a).trans (h.2 a ha)⟩
theorem td_n (hT : TdT S T) {v : Int32} : (upX S 283 2 v).1 286 1 = nI T.length := hT.up.1
theorem td_at {v : Int32} : (upX S 283 2 v).1 283 2 = v := upX_s
theorem td_a (hT : TdT S T) {a : Nat} (h : a < T.length) {v : Int32} : (upX S 283 2 v).2.1 287 a = nI (T.getD a 0) := hT.2 a h
set_option maxRecDepth 100000 in
set_option maxHeartbeats 4000000 in
theorem look_e (hT : TpT S0 T) (hd : TdT S T) {a : Nat} (ha : a ≤ T.length) (h : Q (some (aI (nI (if a < T.length then T.getD a 0 else 0)))) (mk (upX S 283 2 (nI a)))) : G sc mX7_look 44 [some (aR 283)] [] (mk (upX S 283 2 (nI a))) Q := by
  have hl := hT.2.1
  refine G_aload_n (pc := 44) dX7_look_44 rfl rfl ?_
  refine S_getI (pc := 45) dX7_look_45 fX7_27 rfl (by first | rfl | assumption) rfl ?_
  rw [td_at]
  refine G_aload_n (pc := 48) dX7_look_48 rfl rfl ?_
  refine S_getR (pc := 49) (b := 286) dX7_look_49 fX7_23 rfl rfl (by first | rfl | assumption) rfl rfl ?_
  refine S_getI (pc := 52) dX7_look_52 fX7_55 rfl (by first | rfl | assumption) rfl ?_
  rw [td_n hd]
  refine N_icmp_ge (pc := 55) (tgt := 73) dX7_look_55 (by decide) (by omega) (fun c55 => ?_) (fun c55 => ?_)
  · skip
    refine G_iconst (pc := 73) (v := nI 0) dX7_look_73 (by decide) ?_
    refine S_iret (pc := 74) dX7_look_74 rfl ?_
    first | exact q_i h (by rw [if_pos (by omega)]) | exact q_i h (by rw [if_neg (by omega)])
  · skip
    refine G_aload_n (pc := 58) dX7_look_58 rfl rfl ?_
    refine S_getR (pc := 59) (b := 286) dX7_look_59 fX7_23 rfl rfl (by first | rfl | assumption) rfl rfl ?_
    refine S_getR (pc := 62) (b := 287) dX7_look_62 fX7_58 rfl rfl (by first | rfl | assumption) rfl rfl ?_
    refine G_aload_n (pc := 65) dX7_look_65 rfl rfl ?_
    refine S_getI (pc := 66) dX7_look_66 fX7_27 rfl (by first | rfl | assumption) rfl ?_
    rw [td_at]
    refine N_bald (pc := 69) dX7_look_69 (by first | rfl | assumption) (by first | rfl | assumption) (by omega) ?_
    rw [td_a hd (by omega)]
    refine G_goto (pc := 70) (tgt := 74) dX7_look_70 (by decide) ?_
    refine S_iret (pc := 74) dX7_look_74 rfl ?_
    first | exact q_i h (by rw [if_pos (by omega)]) | exact q_i h (by rw [if_neg (by omega)])
set_option maxRecDepth 100000 in
set_option maxHeartbeats 4000000 in
theorem look_lp (hT : TpT S0 T) (hd : TdT S T) : ∀ (f a : Nat), a ≤ T.length → T.length - a ≤ f → Q (some (aI (nI (if skF T f a < T.length then T.getD (skF T f a) 0 else 0)))) (mk (upX S 283 2 (nI (skF T f a)))) → G sc mX7_look 0 [some (aR 283)] [] (mk (upX S 283 2 (nI a))) Q := by
  have hl := hT.2.1
  intro f
  induction f with
  | zero =>
    intro a h1 h2 h
    refine G_aload_n (pc := 0) dX7_look_0 rfl rfl ?_
    refine S_getI (pc := 1) dX7_look_1 fX7_27 rfl (by first | rfl | assumption) rfl ?_
    rw [td_at]
    refine G_aload_n (pc := 4) dX7_look_4 rfl rfl ?_
    refine S_getR (pc := 5) (b := 286) dX7_look_5 fX7_23 rfl rfl (by first | rfl | assumption) rfl rfl ?_
    refine S_getI (pc := 8) dX7_look_8 fX7_55 rfl (by first | rfl | assumption) rfl ?_
    rw [td_n hd]
    refine N_icmp_ge (pc := 11) (tgt := 44) dX7_look_11 (by decide) (by omega) (fun c11 => ?_) (fun c11 => absurd c11 (by omega))
    exact look_e hT hd h1 h
  | succ f ih =>
    intro a h1 h2 h
    by_cases hb : a < T.length ∧ T.getD a 0 = 32
    · have e : skF T (f + 1) a = skF T f (a + 1) := by conv => lhs; unfold skF; rw [if_pos hb]
      rw [e] at h
      refine G_aload_n (pc := 0) dX7_look_0 rfl rfl ?_
      refine S_getI (pc := 1) dX7_look_1 fX7_27 rfl (by first | rfl | assumption) rfl ?_
      rw [td_at]
      refine G_aload_n (pc := 4) dX7_look_4 rfl rfl ?_
      refine S_getR (pc := 5) (b := 286) dX7_look_5 fX7_23 rfl rfl (by first | rfl | assumption) rfl rfl ?_
      refine S_getI (pc := 8) dX7_look_8 fX7_55 rfl (by first | rfl | assumption) rfl ?_
      rw [td_n hd]
      refine N_icmp_ge (pc := 11) (tgt := 44) dX7_look_11 (by decide) (by omega) (fun c11 => absurd c11 (by omega)) (fun c11 => ?_)
      refine G_aload_n (pc := 14) dX7_look_14 rfl rfl ?_
      refine S_getR (pc := 15) (b := 286) dX7_look_15 fX7_23 rfl rfl (by first | rfl | assumption) rfl rfl ?_
      refine S_getR (pc := 18) (b := 287) dX7_look_18 fX7_58 rfl rfl (by first | rfl | assumption) rfl rfl ?_
      refine G_aload_n (pc := 21) dX7_look_21 rfl rfl ?_
      refine S_getI (pc := 22) dX7_look_22 fX7_27 rfl (by first | rfl | assumption) rfl ?_
      rw [td_at]
      refine N_bald (pc := 25) dX7_look_25 (by first | rfl | assumption) (by first | rfl | assumption) (by omega) ?_
      rw [td_a hd hb.1]
      refine G_bipush (pc := 26) (v := nI 32) dX7_look_26 (by decide) ?_
      refine N_icmp_ne (pc := 28) (tgt := 44) dX7_look_28 (by decide) (by omega) (fun c28 => absurd c28 (by omega)) (fun c28 => ?_)
      refine G_aload_n (pc := 31) dX7_look_31 rfl rfl ?_
      refine G_dup (pc := 32) dX7_look_32 rfl ?_
      refine S_getI (pc := 33) dX7_look_33 fX7_27 rfl (by first | rfl | assumption) rfl ?_
      rw [td_at]
      refine G_iconst (pc := 36) (v := nI 1) dX7_look_36 (by decide) ?_
      refine N_iadd (pc := 37) dX7_look_37 ?_
      refine S_putI (pc := 38) dX7_look_38 fX7_27 (by decide) rfl (by first | rfl | assumption) rfl ?_
      refine G_goto (pc := 41) (tgt := 0) dX7_look_41 (by decide) ?_
      rw [upX_u]
      exact ih (a + 1) (by omega) (by omega) h
    · have e : skF T (f + 1) a = a := by conv => lhs; unfold skF; rw [if_neg hb]
      rw [e] at h
      by_cases hlt : a < T.length
      · have hb2 := hT.2.2 a hlt
        refine G_aload_n (pc := 0) dX7_look_0 rfl rfl ?_
        refine S_getI (pc := 1) dX7_look_1 fX7_27 rfl (by first | rfl | assumption) rfl ?_
        rw [td_at]
        refine G_aload_n (pc := 4) dX7_look_4 rfl rfl ?_
        refine S_getR (pc := 5) (b := 286) dX7_look_5 fX7_23 rfl rfl (by first | rfl | assumption) rfl rfl ?_
        refine S_getI (pc := 8) dX7_look_8 fX7_55 rfl (by first | rfl | assumption) rfl ?_
        rw [td_n hd]
        refine N_icmp_ge (pc := 11) (tgt := 44) dX7_look_11 (by decide) (by omega) (fun c11 => absurd c11 (by omega)) (fun c11 => ?_)
        refine G_aload_n (pc := 14) dX7_look_14 rfl rfl ?_
        refine S_getR (pc := 15) (b := 286) dX7_look_15 fX7_23 rfl rfl (by first | rfl | assumption) rfl rfl ?_
        refine S_getR (pc := 18) (b := 287) dX7_look_18 fX7_58 rfl rfl (by first | rfl | assumption) rfl rfl ?_
        refine G_aload_n (pc := 21) dX7_look_21 rfl rfl ?_
        refine S_getI (pc := 22) dX7_look_22 fX7_27 rfl (by first | rfl | assumption) rfl ?_
        rw [td_at]
        refine N_bald (pc := 25) dX7_look_25 (by first | rfl | assumption) (by first | rfl | assumption) (by omega) ?_
        rw [td_a hd hlt]
        refine G_bipush (pc := 26) (v := nI 32) dX7_look_26 (by decide) ?_
        refine N_icmp_ne (pc := 28) (tgt := 44) dX7_look_28 (by decide) (by omega) (fun c28 => ?_) (fun c28 => absurd c28 (by omega))
        exact look_e hT hd h1 h
      · skip
        refine G_aload_n (pc := 0) dX7_look_0 rfl rfl ?_
        refine S_getI (pc := 1) dX7_look_1 fX7_27 rfl (by first | rfl | assumption) rfl ?_
        rw [td_at]
        refine G_aload_n (pc := 4) dX7_look_4 rfl rfl ?_
        refine S_getR (pc := 5) (b := 286) dX7_look_5 fX7_23 rfl rfl (by first | rfl | assumption) rfl rfl ?_
        refine S_getI (pc := 8) dX7_look_8 fX7_55 rfl (by first | rfl | assumption) rfl ?_
        rw [td_n hd]
        refine N_icmp_ge (pc := 11) (tgt := 44) dX7_look_11 (by decide) (by omega) (fun c11 => ?_) (fun c11 => absurd c11 (by omega))
        exact look_e hT hd h1 h
set_option maxRecDepth 100000 in
set_option maxHeartbeats 4000000 in
theorem sX7_look (hT : TpT S0 T) (hd : TdT S T) {a : Nat} (ha : a ≤ T.length) (h : Q (some (aI (nI (lk T a)))) (mk (upX S 283 2 (nI (sk T a))))) : CT sc mX7_look [aR 283] (mk (upX S 283 2 (nI a))) Q := by
  refine S_of (by decide) rfl ?_
  show G sc mX7_look 0 [some (aR 283)] [] (mk (upX S 283 2 (nI a))) Q
  exact look_lp hT hd T.length a ha (by omega) h
/-- a distance -/
def rdD (T : List Nat) (c a : Nat) : Option Nat × Nat := if 48 ≤ lk T a ∧ lk T a ≤ 55 then (some (c + (lk T a - 48)), sk T a + 1) else (none, sk T a)
set_option maxRecDepth 100000 in
set_option maxHeartbeats 4000000 in
theorem sX7_readDistance (hT : TpT S0 T) (hd : TdT S T) {a c : Nat} (hc : c ≤ 8) (ha : a ≤ T.length) (h : Q (some (aI (midI (rdD T c a).1))) (mk (upX S 283 2 (nI (rdD T c a).2)))) : CT sc mX7_readDistance [aR 283, aI (nI c)] (mk (upX S 283 2 (nI a))) Q := by
  refine S_of (by decide) rfl ?_
  show G sc mX7_readDistance 0 [some (aR 283), some (aI (nI c)), none] [] (mk (upX S 283 2 (nI a))) Q
  have hb := (lk_b hT a).1
  unfold rdD at h
  refine G_aload_n (pc := 0) dX7_readDistance_0 rfl rfl ?_
  refine S_callV (av := []) (pc := 1) (z := mX7_look) (ci := 6) dX7_readDistance_1 zX7_look lX7_readDistance_42 rfl (by first | rfl | assumption) rfl rfl (sX7_look hT hd ha ⟨_, rfl, ?_⟩)
  refine G_istore_n (pc := 4) dX7_readDistance_4 rfl (by decide) rfl ?_
  refine G_iload_n (pc := 5) dX7_readDistance_5 rfl rfl ?_
  refine G_bipush (pc := 6) (v := nI 48) dX7_readDistance_6 (by decide) ?_
  refine N_icmp_lt (pc := 8) (tgt := 17) dX7_readDistance_8 (by decide) (by omega) (fun c8 => ?_) (fun c8 => ?_)
  · skip
    refine G_iconst (pc := 17) (v := (-1)) dX7_readDistance_17 (by decide) ?_
    refine S_iret (pc := 18) dX7_readDistance_18 rfl ?_
    rw [if_neg (by omega)] at h
    exact h
  · skip
    refine G_iload_n (pc := 11) dX7_readDistance_11 rfl rfl ?_
    refine G_bipush (pc := 12) (v := nI 55) dX7_readDistance_12 (by decide) ?_
    refine N_icmp_le (pc := 14) (tgt := 19) dX7_readDistance_14 (by decide) (by omega) (fun c14 => ?_) (fun c14 => ?_)
    · skip
      refine G_aload_n (pc := 19) dX7_readDistance_19 rfl rfl ?_
      refine G_dup (pc := 20) dX7_readDistance_20 rfl ?_
      refine S_getI (pc := 21) dX7_readDistance_21 fX7_27 rfl (by first | rfl | assumption) rfl ?_
      rw [td_at]
      refine G_iconst (pc := 24) (v := nI 1) dX7_readDistance_24 (by decide) ?_
      refine N_iadd (pc := 25) dX7_readDistance_25 ?_
      refine S_putI (pc := 26) dX7_readDistance_26 fX7_27 (by decide) rfl (by first | rfl | assumption) rfl ?_
      refine G_iload_n (pc := 29) dX7_readDistance_29 rfl rfl ?_
      refine G_iload_n (pc := 30) dX7_readDistance_30 rfl rfl ?_
      refine N_iadd (pc := 31) dX7_readDistance_31 ?_
      refine G_bipush (pc := 32) (v := nI 48) dX7_readDistance_32 (by decide) ?_
      refine N_isub (pc := 34) dX7_readDistance_34 (by omega) ?_
      refine S_iret (pc := 35) dX7_readDistance_35 rfl ?_
      rw [if_pos (by omega)] at h
      rw [upX_u]
      refine q_i h ?_
      show nI _ = nI _
      congr 1
      omega
    · skip
      refine G_iconst (pc := 17) (v := (-1)) dX7_readDistance_17 (by decide) ?_
      refine S_iret (pc := 18) dX7_readDistance_18 rfl ?_
      rw [if_neg (by omega)] at h
      exact h
/-- a run -/
def rdR (T : List Nat) (c a : Nat) : Option Nat × Nat := match on1 T a [100, 119, 99, 115] with
  | none => (none, sk T a)
  | some k => match on1 T (sk T a + 1) [49, 50, 122] with
    | none => (none, sk T (sk T a + 1))
    | some w => (some (16 + 6 * k + c + w), sk T (sk T a + 1) + 1)
theorem rdR_0 {a c : Nat} (h : on1 T a [100, 119, 99, 115] = none) : rdR T c a = (none, sk T a) := by unfold rdR; rw [h]
theorem rdR_1 {a c k : Nat} (h : on1 T a [100, 119, 99, 115] = some k) (h2 : on1 T (sk T a + 1) [49, 50, 122] = none) : rdR T c a = (none, sk T (sk T a + 1)) := by unfold rdR; rw [h]; dsimp only; rw [h2]
theorem rdR_2 {a c k w : Nat} (h : on1 T a [100, 119, 99, 115] = some k) (h2 : on1 T (sk T a + 1) [49, 50, 122] = some w) : rdR T c a = (some (16 + 6 * k + c + w), sk T (sk T a + 1) + 1) := by unfold rdR; rw [h]; dsimp only; rw [h2]
theorem tx_on0 (hT : TpT S0 T) {a : Nat} : fsI (lk T a) (txN 0) 0 = on1 T a [100, 119, 99, 115] := fs_fn0 _ (by have := (lk_b hT a).1; omega)
theorem tx_on1 (hT : TpT S0 T) {a : Nat} : fsI (lk T a) (txN 1) 0 = on1 T a [49, 50, 122] := fs_fn1 _ (by have := (lk_b hT a).1; omega)
set_option maxRecDepth 100000 in
set_option maxHeartbeats 4000000 in
theorem sX7_readRun (hT : TpT S0 T) (hd : TdT S T) {a c : Nat} (hc : c ≤ 3) (ha : a ≤ T.length) (h : Q (some (aI (midI (rdR T c a).1))) (mk (upX S 283 2 (nI (rdR T c a).2)))) : CT sc mX7_readRun [aR 283, aI (nI c)] (mk (upX S 283 2 (nI a))) Q := by
  refine S_of (by decide) rfl ?_
  show G sc mX7_readRun 0 [some (aR 283), some (aI (nI c)), none, none] [] (mk (upX S 283 2 (nI a))) Q
  have hb := (lk_b hT a).1
  have hb2 := (lk_b hT (sk T a + 1)).1
  have hs := sk_le ha
  rcases ho : on1 T a [100, 119, 99, 115] with _ | k
  · rw [rdR_0 ho] at h
    refine G_ldcS (pc := 0) (j := 0) dX7_readRun_0 (fun f s Wd => Wd.2.2.2.2.1) ?_
    refine G_aload_n (pc := 2) dX7_readRun_2 rfl rfl ?_
    refine S_callV (av := []) (pc := 3) (z := mX7_look) (ci := 6) dX7_readRun_3 zX7_look lX7_readRun_42 rfl (by first | rfl | assumption) rfl rfl (sX7_look hT hd ha ⟨_, rfl, ?_⟩)
    refine G_i2c (pc := 6) dX7_readRun_6 ?_
    rw [ch16 _ (by omega)]
    refine S_callE (av := [_]) (pc := 7) (z := mJ0_indexOf_0f7a4) (j := 0) dX7_readRun_7 zJ0_indexOf_0f7a4 lX7_readRun_87 rfl rfl (by decide) (sJ0_indexOf (j := 0) (by decide) (by omega) ⟨_, rfl, ?_⟩)
    rw [tx_on0 hT, ho]
    refine G_istore_n (pc := 10) dX7_readRun_10 rfl (by decide) rfl ?_
    refine G_iload_n (pc := 11) dX7_readRun_11 rfl rfl ?_
    refine T_if_ge (pc := 12) (tgt := 17) dX7_readRun_12 (by decide) (fun c12 => absurd c12 (by decide)) (fun c12 => ?_)
    refine G_iconst (pc := 15) (v := (-1)) dX7_readRun_15 (by decide) ?_
    refine S_iret (pc := 16) dX7_readRun_16 rfl ?_
    exact h
  · have hk := on1_lt ho
    have hk : k < 4 := hk
    have hsk := on1_0 hT (by decide) ho
    have hs2 := sk_le (T := T) (a := sk T a + 1) (by omega)
    rcases ho2 : on1 T (sk T a + 1) [49, 50, 122] with _ | w
    · rw [rdR_1 ho ho2] at h
      refine G_ldcS (pc := 0) (j := 0) dX7_readRun_0 (fun f s Wd => Wd.2.2.2.2.1) ?_
      refine G_aload_n (pc := 2) dX7_readRun_2 rfl rfl ?_
      refine S_callV (av := []) (pc := 3) (z := mX7_look) (ci := 6) dX7_readRun_3 zX7_look lX7_readRun_42 rfl (by first | rfl | assumption) rfl rfl (sX7_look hT hd ha ⟨_, rfl, ?_⟩)
      refine G_i2c (pc := 6) dX7_readRun_6 ?_
      rw [ch16 _ (by omega)]
      refine S_callE (av := [_]) (pc := 7) (z := mJ0_indexOf_0f7a4) (j := 0) dX7_readRun_7 zJ0_indexOf_0f7a4 lX7_readRun_87 rfl rfl (by decide) (sJ0_indexOf (j := 0) (by decide) (by omega) ⟨_, rfl, ?_⟩)
      rw [tx_on0 hT, ho, midI_s]
      refine G_istore_n (pc := 10) dX7_readRun_10 rfl (by decide) rfl ?_
      refine G_iload_n (pc := 11) dX7_readRun_11 rfl rfl ?_
      refine N_if_ge (pc := 12) (tgt := 17) dX7_readRun_12 (by decide) (by omega) ?_
      refine G_aload_n (pc := 17) dX7_readRun_17 rfl rfl ?_
      refine G_dup (pc := 18) dX7_readRun_18 rfl ?_
      refine S_getI (pc := 19) dX7_readRun_19 fX7_27 rfl (by first | rfl | assumption) rfl ?_
      rw [td_at]
      refine G_iconst (pc := 22) (v := nI 1) dX7_readRun_22 (by decide) ?_
      refine N_iadd (pc := 23) dX7_readRun_23 ?_
      refine S_putI (pc := 24) dX7_readRun_24 fX7_27 (by decide) rfl (by first | rfl | assumption) rfl ?_
      refine G_ldcS (pc := 27) (j := 1) dX7_readRun_27 (fun f s Wd => Wd.2.2.2.2.2.1) ?_
      rw [upX_u]
      refine G_aload_n (pc := 29) dX7_readRun_29 rfl rfl ?_
      refine S_callV (av := []) (pc := 30) (z := mX7_look) (ci := 6) dX7_readRun_30 zX7_look lX7_readRun_42 rfl (by first | rfl | assumption) rfl rfl (sX7_look hT hd (by omega) ⟨_, rfl, ?_⟩)
      refine G_i2c (pc := 33) dX7_readRun_33 ?_
      rw [ch16 _ (by omega)]
      refine S_callE (av := [_]) (pc := 34) (z := mJ0_indexOf_0f7a4) (j := 1) dX7_readRun_34 zJ0_indexOf_0f7a4 lX7_readRun_87 rfl rfl (by decide) (sJ0_indexOf (j := 1) (by decide) (by omega) ⟨_, rfl, ?_⟩)
      rw [tx_on1 hT, ho2]
      refine G_istore_n (pc := 37) dX7_readRun_37 rfl (by decide) rfl ?_
      refine G_iload_n (pc := 38) dX7_readRun_38 rfl rfl ?_
      refine T_if_ge (pc := 39) (tgt := 44) dX7_readRun_39 (by decide) (fun c39 => absurd c39 (by decide)) (fun c39 => ?_)
      refine G_iconst (pc := 42) (v := (-1)) dX7_readRun_42 (by decide) ?_
      refine S_iret (pc := 43) dX7_readRun_43 rfl ?_
      exact h
    · rw [rdR_2 ho ho2] at h
      have hw := on1_lt ho2
      have hw : w < 3 := hw
      refine G_ldcS (pc := 0) (j := 0) dX7_readRun_0 (fun f s Wd => Wd.2.2.2.2.1) ?_
      refine G_aload_n (pc := 2) dX7_readRun_2 rfl rfl ?_
      refine S_callV (av := []) (pc := 3) (z := mX7_look) (ci := 6) dX7_readRun_3 zX7_look lX7_readRun_42 rfl (by first | rfl | assumption) rfl rfl (sX7_look hT hd ha ⟨_, rfl, ?_⟩)
      refine G_i2c (pc := 6) dX7_readRun_6 ?_
      rw [ch16 _ (by omega)]
      refine S_callE (av := [_]) (pc := 7) (z := mJ0_indexOf_0f7a4) (j := 0) dX7_readRun_7 zJ0_indexOf_0f7a4 lX7_readRun_87 rfl rfl (by decide) (sJ0_indexOf (j := 0) (by decide) (by omega) ⟨_, rfl, ?_⟩)
      rw [tx_on0 hT, ho, midI_s]
      refine G_istore_n (pc := 10) dX7_readRun_10 rfl (by decide) rfl ?_
      refine G_iload_n (pc := 11) dX7_readRun_11 rfl rfl ?_
      refine N_if_ge (pc := 12) (tgt := 17) dX7_readRun_12 (by decide) (by omega) ?_
      refine G_aload_n (pc := 17) dX7_readRun_17 rfl rfl ?_
      refine G_dup (pc := 18) dX7_readRun_18 rfl ?_
      refine S_getI (pc := 19) dX7_readRun_19 fX7_27 rfl (by first | rfl | assumption) rfl ?_
      rw [td_at]
      refine G_iconst (pc := 22) (v := nI 1) dX7_readRun_22 (by decide) ?_
      refine N_iadd (pc := 23) dX7_readRun_23 ?_
      refine S_putI (pc := 24) dX7_readRun_24 fX7_27 (by decide) rfl (by first | rfl | assumption) rfl ?_
      refine G_ldcS (pc := 27) (j := 1) dX7_readRun_27 (fun f s Wd => Wd.2.2.2.2.2.1) ?_
      rw [upX_u]
      refine G_aload_n (pc := 29) dX7_readRun_29 rfl rfl ?_
      refine S_callV (av := []) (pc := 30) (z := mX7_look) (ci := 6) dX7_readRun_30 zX7_look lX7_readRun_42 rfl (by first | rfl | assumption) rfl rfl (sX7_look hT hd (by omega) ⟨_, rfl, ?_⟩)
      refine G_i2c (pc := 33) dX7_readRun_33 ?_
      rw [ch16 _ (by omega)]
      refine S_callE (av := [_]) (pc := 34) (z := mJ0_indexOf_0f7a4) (j := 1) dX7_readRun_34 zJ0_indexOf_0f7a4 lX7_readRun_87 rfl rfl (by decide) (sJ0_indexOf (j := 1) (by decide) (by omega) ⟨_, rfl, ?_⟩)
      rw [tx_on1 hT, ho2, midI_s]
      refine G_istore_n (pc := 37) dX7_readRun_37 rfl (by decide) rfl ?_
      refine G_iload_n (pc := 38) dX7_readRun_38 rfl rfl ?_
      refine N_if_ge (pc := 39) (tgt := 44) dX7_readRun_39 (by decide) (by omega) ?_
      refine G_aload_n (pc := 44) dX7_readRun_44 rfl rfl ?_
      refine G_dup (pc := 45) dX7_readRun_45 rfl ?_
      refine S_getI (pc := 46) dX7_readRun_46 fX7_27 rfl (by first | rfl | assumption) rfl ?_
      rw [td_at]
      refine G_iconst (pc := 49) (v := nI 1) dX7_readRun_49 (by decide) ?_
      refine N_iadd (pc := 50) dX7_readRun_50 ?_
      refine S_putI (pc := 51) dX7_readRun_51 fX7_27 (by decide) rfl (by first | rfl | assumption) rfl ?_
      refine G_bipush (pc := 54) (v := nI 16) dX7_readRun_54 (by decide) ?_
      refine G_bipush (pc := 56) (v := nI 6) dX7_readRun_56 (by decide) ?_
      refine G_iload_n (pc := 58) dX7_readRun_58 rfl rfl ?_
      refine N_imul (pc := 59) dX7_readRun_59 ?_
      refine N_iadd (pc := 60) dX7_readRun_60 ?_
      refine G_iload_n (pc := 61) dX7_readRun_61 rfl rfl ?_
      refine N_iadd (pc := 62) dX7_readRun_62 ?_
      refine G_iload_n (pc := 63) dX7_readRun_63 rfl rfl ?_
      refine N_iadd (pc := 64) dX7_readRun_64 ?_
      refine S_iret (pc := 65) dX7_readRun_65 rfl ?_
      rw [upX_u]
      exact h
theorem rdP_D {a c : Nat} (h : on1 T a [102, 101, 98, 97] = some c) (hc : c < 2) : rdP T a = rdD T (8 * c) (sk T a + 1) := rdP_1 h hc
theorem rdP_R {a c : Nat} (h : on1 T a [102, 101, 98, 97] = some c) (hc : ¬ c < 2) : rdP T a = rdR T (3 * (c - 2)) (sk T a + 1) := by
  rcases h2 : on1 T (sk T a + 1) [100, 119, 99, 115] with _ | k
  · rw [rdP_2 h hc h2, rdR_0 h2]
  · rcases h3 : on1 T (sk T (sk T a + 1) + 1) [49, 50, 122] with _ | w
    · rw [rdP_3 h hc h2 h3, rdR_1 h2 h3]
    · rw [rdP_4 h hc h2 h3, rdR_2 h2 h3]
set_option maxRecDepth 100000 in
set_option maxHeartbeats 4000000 in
theorem sX7_readPlace (hT : TpT S0 T) (hd : TdT S T) {a : Nat} (ha : a ≤ T.length) (h : Q (some (aI (midI (rdP T a).1))) (mk (upX S 283 2 (nI (rdP T a).2)))) : CT sc mX7_readPlace [aR 283] (mk (upX S 283 2 (nI a))) Q := by
  refine S_of (by decide) rfl ?_
  show G sc mX7_readPlace 0 [some (aR 283), none] [] (mk (upX S 283 2 (nI a))) Q
  have hb := (lk_b hT a).1
  have hs := sk_le ha
  have ho : on1 T a [102, 101, 98, 97] = _ := on_fe (lk T a) (by omega)
  have hn : ¬ lk T a = 0 → sk T a + 1 ≤ T.length := fun q => by have := lk_sk2 hT q; omega
  by_cases q1 : lk T a = 102
  · have hn := hn (by omega)
    rw [if_pos q1] at ho
    rw [rdP_D ho (by omega)] at h
    refine G_aload_n (pc := 0) dX7_readPlace_0 rfl rfl ?_
    refine S_callV (av := []) (pc := 1) (z := mX7_look) (ci := 6) dX7_readPlace_1 zX7_look lX7_readPlace_42 rfl (by first | rfl | assumption) rfl rfl (sX7_look hT hd ha ⟨_, rfl, ?_⟩)
    refine G_istore_n (pc := 4) dX7_readPlace_4 rfl (by decide) rfl ?_
    refine G_iload_n (pc := 5) dX7_readPlace_5 rfl rfl ?_
    refine G_bipush (pc := 6) (v := nI 102) dX7_readPlace_6 (by decide) ?_
    refine N_icmp_eq (pc := 8) (tgt := 17) dX7_readPlace_8 (by decide) (by omega) (fun c8 => ?_) (fun c8 => absurd c8 (by omega))
    refine G_aload_n (pc := 17) dX7_readPlace_17 rfl rfl ?_
    refine G_dup (pc := 18) dX7_readPlace_18 rfl ?_
    refine S_getI (pc := 19) dX7_readPlace_19 fX7_27 rfl (by first | rfl | assumption) rfl ?_
    rw [td_at]
    refine G_iconst (pc := 22) (v := nI 1) dX7_readPlace_22 (by decide) ?_
    refine N_iadd (pc := 23) dX7_readPlace_23 ?_
    refine S_putI (pc := 24) dX7_readPlace_24 fX7_27 (by decide) rfl (by first | rfl | assumption) rfl ?_
    refine G_aload_n (pc := 27) dX7_readPlace_27 rfl rfl ?_
    refine G_iload_n (pc := 28) dX7_readPlace_28 rfl rfl ?_
    refine G_bipush (pc := 29) (v := nI 102) dX7_readPlace_29 (by decide) ?_
    refine N_icmp_ne (pc := 31) (tgt := 38) dX7_readPlace_31 (by decide) (by omega) (fun c31 => absurd c31 (by omega)) (fun c31 => ?_)
    refine G_iconst (pc := 34) (v := nI 0) dX7_readPlace_34 (by decide) ?_
    rw [upX_u]
    refine G_goto (pc := 35) (tgt := 40) dX7_readPlace_35 (by decide) ?_
    refine S_callV (av := [_]) (pc := 40) (z := mX7_readDistance) (ci := 6) dX7_readPlace_40 zX7_readDistance lX7_readPlace_78 rfl (by first | rfl | assumption) rfl rfl (sX7_readDistance hT hd (c := 0) (by omega) hn ⟨_, rfl, ?_⟩)
    refine S_iret (pc := 43) dX7_readPlace_43 rfl ?_
    exact h
  rw [if_neg q1] at ho
  by_cases q2 : lk T a = 101
  · have hn := hn (by omega)
    rw [if_pos q2] at ho
    rw [rdP_D ho (by omega)] at h
    refine G_aload_n (pc := 0) dX7_readPlace_0 rfl rfl ?_
    refine S_callV (av := []) (pc := 1) (z := mX7_look) (ci := 6) dX7_readPlace_1 zX7_look lX7_readPlace_42 rfl (by first | rfl | assumption) rfl rfl (sX7_look hT hd ha ⟨_, rfl, ?_⟩)
    refine G_istore_n (pc := 4) dX7_readPlace_4 rfl (by decide) rfl ?_
    refine G_iload_n (pc := 5) dX7_readPlace_5 rfl rfl ?_
    refine G_bipush (pc := 6) (v := nI 102) dX7_readPlace_6 (by decide) ?_
    refine N_icmp_eq (pc := 8) (tgt := 17) dX7_readPlace_8 (by decide) (by omega) (fun c8 => absurd c8 (by omega)) (fun c8 => ?_)
    refine G_iload_n (pc := 11) dX7_readPlace_11 rfl rfl ?_
    refine G_bipush (pc := 12) (v := nI 101) dX7_readPlace_12 (by decide) ?_
    refine N_icmp_ne (pc := 14) (tgt := 44) dX7_readPlace_14 (by decide) (by omega) (fun c14 => absurd c14 (by omega)) (fun c14 => ?_)
    refine G_aload_n (pc := 17) dX7_readPlace_17 rfl rfl ?_
    refine G_dup (pc := 18) dX7_readPlace_18 rfl ?_
    refine S_getI (pc := 19) dX7_readPlace_19 fX7_27 rfl (by first | rfl | assumption) rfl ?_
    rw [td_at]
    refine G_iconst (pc := 22) (v := nI 1) dX7_readPlace_22 (by decide) ?_
    refine N_iadd (pc := 23) dX7_readPlace_23 ?_
    refine S_putI (pc := 24) dX7_readPlace_24 fX7_27 (by decide) rfl (by first | rfl | assumption) rfl ?_
    refine G_aload_n (pc := 27) dX7_readPlace_27 rfl rfl ?_
    refine G_iload_n (pc := 28) dX7_readPlace_28 rfl rfl ?_
    refine G_bipush (pc := 29) (v := nI 102) dX7_readPlace_29 (by decide) ?_
    refine N_icmp_ne (pc := 31) (tgt := 38) dX7_readPlace_31 (by decide) (by omega) (fun c31 => ?_) (fun c31 => absurd c31 (by omega))
    refine G_bipush (pc := 38) (v := nI 8) dX7_readPlace_38 (by decide) ?_
    rw [upX_u]
    refine S_callV (av := [_]) (pc := 40) (z := mX7_readDistance) (ci := 6) dX7_readPlace_40 zX7_readDistance lX7_readPlace_78 rfl (by first | rfl | assumption) rfl rfl (sX7_readDistance hT hd (c := 8) (by omega) hn ⟨_, rfl, ?_⟩)
    refine S_iret (pc := 43) dX7_readPlace_43 rfl ?_
    exact h
  rw [if_neg q2] at ho
  by_cases q3 : lk T a = 98
  · have hn := hn (by omega)
    rw [if_pos q3] at ho
    rw [rdP_R ho (by omega)] at h
    refine G_aload_n (pc := 0) dX7_readPlace_0 rfl rfl ?_
    refine S_callV (av := []) (pc := 1) (z := mX7_look) (ci := 6) dX7_readPlace_1 zX7_look lX7_readPlace_42 rfl (by first | rfl | assumption) rfl rfl (sX7_look hT hd ha ⟨_, rfl, ?_⟩)
    refine G_istore_n (pc := 4) dX7_readPlace_4 rfl (by decide) rfl ?_
    refine G_iload_n (pc := 5) dX7_readPlace_5 rfl rfl ?_
    refine G_bipush (pc := 6) (v := nI 102) dX7_readPlace_6 (by decide) ?_
    refine N_icmp_eq (pc := 8) (tgt := 17) dX7_readPlace_8 (by decide) (by omega) (fun c8 => absurd c8 (by omega)) (fun c8 => ?_)
    refine G_iload_n (pc := 11) dX7_readPlace_11 rfl rfl ?_
    refine G_bipush (pc := 12) (v := nI 101) dX7_readPlace_12 (by decide) ?_
    refine N_icmp_ne (pc := 14) (tgt := 44) dX7_readPlace_14 (by decide) (by omega) (fun c14 => ?_) (fun c14 => absurd c14 (by omega))
    refine G_iload_n (pc := 44) dX7_readPlace_44 rfl rfl ?_
    refine G_bipush (pc := 45) (v := nI 98) dX7_readPlace_45 (by decide) ?_
    refine N_icmp_eq (pc := 47) (tgt := 56) dX7_readPlace_47 (by decide) (by omega) (fun c47 => ?_) (fun c47 => absurd c47 (by omega))
    refine G_aload_n (pc := 56) dX7_readPlace_56 rfl rfl ?_
    refine G_dup (pc := 57) dX7_readPlace_57 rfl ?_
    refine S_getI (pc := 58) dX7_readPlace_58 fX7_27 rfl (by first | rfl | assumption) rfl ?_
    rw [td_at]
    refine G_iconst (pc := 61) (v := nI 1) dX7_readPlace_61 (by decide) ?_
    refine N_iadd (pc := 62) dX7_readPlace_62 ?_
    refine S_putI (pc := 63) dX7_readPlace_63 fX7_27 (by decide) rfl (by first | rfl | assumption) rfl ?_
    refine G_aload_n (pc := 66) dX7_readPlace_66 rfl rfl ?_
    refine G_iload_n (pc := 67) dX7_readPlace_67 rfl rfl ?_
    refine G_bipush (pc := 68) (v := nI 98) dX7_readPlace_68 (by decide) ?_
    refine N_icmp_ne (pc := 70) (tgt := 77) dX7_readPlace_70 (by decide) (by omega) (fun c70 => absurd c70 (by omega)) (fun c70 => ?_)
    refine G_iconst (pc := 73) (v := nI 0) dX7_readPlace_73 (by decide) ?_
    rw [upX_u]
    refine G_goto (pc := 74) (tgt := 78) dX7_readPlace_74 (by decide) ?_
    refine S_callV (av := [_]) (pc := 78) (z := mX7_readRun) (ci := 6) dX7_readPlace_78 zX7_readRun lX7_readPlace_82 rfl (by first | rfl | assumption) rfl rfl (sX7_readRun hT hd (c := 0) (by omega) hn ⟨_, rfl, ?_⟩)
    refine S_iret (pc := 81) dX7_readPlace_81 rfl ?_
    exact h
  rw [if_neg q3] at ho
  by_cases q4 : lk T a = 97
  · have hn := hn (by omega)
    rw [if_pos q4] at ho
    rw [rdP_R ho (by omega)] at h
    refine G_aload_n (pc := 0) dX7_readPlace_0 rfl rfl ?_
    refine S_callV (av := []) (pc := 1) (z := mX7_look) (ci := 6) dX7_readPlace_1 zX7_look lX7_readPlace_42 rfl (by first | rfl | assumption) rfl rfl (sX7_look hT hd ha ⟨_, rfl, ?_⟩)
    refine G_istore_n (pc := 4) dX7_readPlace_4 rfl (by decide) rfl ?_
    refine G_iload_n (pc := 5) dX7_readPlace_5 rfl rfl ?_
    refine G_bipush (pc := 6) (v := nI 102) dX7_readPlace_6 (by decide) ?_
    refine N_icmp_eq (pc := 8) (tgt := 17) dX7_readPlace_8 (by decide) (by omega) (fun c8 => absurd c8 (by omega)) (fun c8 => ?_)
    refine G_iload_n (pc := 11) dX7_readPlace_11 rfl rfl ?_
    refine G_bipush (pc := 12) (v := nI 101) dX7_readPlace_12 (by decide) ?_
    refine N_icmp_ne (pc := 14) (tgt := 44) dX7_readPlace_14 (by decide) (by omega) (fun c14 => ?_) (fun c14 => absurd c14 (by omega))
    refine G_iload_n (pc := 44) dX7_readPlace_44 rfl rfl ?_
    refine G_bipush (pc := 45) (v := nI 98) dX7_readPlace_45 (by decide) ?_
    refine N_icmp_eq (pc := 47) (tgt := 56) dX7_readPlace_47 (by decide) (by omega) (fun c47 => absurd c47 (by omega)) (fun c47 => ?_)
    refine G_iload_n (pc := 50) dX7_readPlace_50 rfl rfl ?_
    refine G_bipush (pc := 51) (v := nI 97) dX7_readPlace_51 (by decide) ?_
    refine N_icmp_ne (pc := 53) (tgt := 82) dX7_readPlace_53 (by decide) (by omega) (fun c53 => absurd c53 (by omega)) (fun c53 => ?_)
    refine G_aload_n (pc := 56) dX7_readPlace_56 rfl rfl ?_
    refine G_dup (pc := 57) dX7_readPlace_57 rfl ?_
    refine S_getI (pc := 58) dX7_readPlace_58 fX7_27 rfl (by first | rfl | assumption) rfl ?_
    rw [td_at]
    refine G_iconst (pc := 61) (v := nI 1) dX7_readPlace_61 (by decide) ?_
    refine N_iadd (pc := 62) dX7_readPlace_62 ?_
    refine S_putI (pc := 63) dX7_readPlace_63 fX7_27 (by decide) rfl (by first | rfl | assumption) rfl ?_
    refine G_aload_n (pc := 66) dX7_readPlace_66 rfl rfl ?_
    refine G_iload_n (pc := 67) dX7_readPlace_67 rfl rfl ?_
    refine G_bipush (pc := 68) (v := nI 98) dX7_readPlace_68 (by decide) ?_
    refine N_icmp_ne (pc := 70) (tgt := 77) dX7_readPlace_70 (by decide) (by omega) (fun c70 => ?_) (fun c70 => absurd c70 (by omega))
    refine G_iconst (pc := 77) (v := nI 3) dX7_readPlace_77 (by decide) ?_
    rw [upX_u]
    refine S_callV (av := [_]) (pc := 78) (z := mX7_readRun) (ci := 6) dX7_readPlace_78 zX7_readRun lX7_readPlace_82 rfl (by first | rfl | assumption) rfl rfl (sX7_readRun hT hd (c := 3) (by omega) hn ⟨_, rfl, ?_⟩)
    refine S_iret (pc := 81) dX7_readPlace_81 rfl ?_
    exact h
  rw [if_neg q4] at ho
  rw [rdP_0 ho] at h
  refine G_aload_n (pc := 0) dX7_readPlace_0 rfl rfl ?_
  refine S_callV (av := []) (pc := 1) (z := mX7_look) (ci := 6) dX7_readPlace_1 zX7_look lX7_readPlace_42 rfl (by first | rfl | assumption) rfl rfl (sX7_look hT hd ha ⟨_, rfl, ?_⟩)
  refine G_istore_n (pc := 4) dX7_readPlace_4 rfl (by decide) rfl ?_
  refine G_iload_n (pc := 5) dX7_readPlace_5 rfl rfl ?_
  refine G_bipush (pc := 6) (v := nI 102) dX7_readPlace_6 (by decide) ?_
  refine N_icmp_eq (pc := 8) (tgt := 17) dX7_readPlace_8 (by decide) (by omega) (fun c8 => absurd c8 (by omega)) (fun c8 => ?_)
  refine G_iload_n (pc := 11) dX7_readPlace_11 rfl rfl ?_
  refine G_bipush (pc := 12) (v := nI 101) dX7_readPlace_12 (by decide) ?_
  refine N_icmp_ne (pc := 14) (tgt := 44) dX7_readPlace_14 (by decide) (by omega) (fun c14 => ?_) (fun c14 => absurd c14 (by omega))
  refine G_iload_n (pc := 44) dX7_readPlace_44 rfl rfl ?_
  refine G_bipush (pc := 45) (v := nI 98) dX7_readPlace_45 (by decide) ?_
  refine N_icmp_eq (pc := 47) (tgt := 56) dX7_readPlace_47 (by decide) (by omega) (fun c47 => absurd c47 (by omega)) (fun c47 => ?_)
  refine G_iload_n (pc := 50) dX7_readPlace_50 rfl rfl ?_
  refine G_bipush (pc := 51) (v := nI 97) dX7_readPlace_51 (by decide) ?_
  refine N_icmp_ne (pc := 53) (tgt := 82) dX7_readPlace_53 (by decide) (by omega) (fun c53 => ?_) (fun c53 => absurd c53 (by omega))
  refine G_iconst (pc := 82) (v := (-1)) dX7_readPlace_82 (by decide) ?_
  refine S_iret (pc := 83) dX7_readPlace_83 rfl ?_
  exact h
set_option maxRecDepth 100000 in
set_option maxHeartbeats 4000000 in
theorem sX7_readTurn (hT : TpT S0 T) (hd : TdT S T) {a : Nat} (ha : a ≤ T.length) (h : Q (some (aI (nI (tuN T a)))) (mk (upX S 283 2 (nI (sk T a + (if 0 < tuN T a then 1 else 0)))))) : CT sc mX7_readTurn [aR 283] (mk (upX S 283 2 (nI a))) Q := by
  refine S_of (by decide) rfl ?_
  show G sc mX7_readTurn 0 [some (aR 283), none] [] (mk (upX S 283 2 (nI a))) Q
  have hb := (lk_b hT a).1
  unfold tuN at h
  by_cases q1 : lk T a = 117
  · rw [if_pos q1] at h
    refine G_aload_n (pc := 0) dX7_readTurn_0 rfl rfl ?_
    refine S_callV (av := []) (pc := 1) (z := mX7_look) (ci := 6) dX7_readTurn_1 zX7_look lX7_readTurn_42 rfl (by first | rfl | assumption) rfl rfl (sX7_look hT hd ha ⟨_, rfl, ?_⟩)
    refine G_istore_n (pc := 4) dX7_readTurn_4 rfl (by decide) rfl ?_
    refine G_iload_n (pc := 5) dX7_readTurn_5 rfl rfl ?_
    refine G_bipush (pc := 6) (v := nI 117) dX7_readTurn_6 (by decide) ?_
    refine N_icmp_eq (pc := 8) (tgt := 19) dX7_readTurn_8 (by decide) (by omega) (fun c8 => ?_) (fun c8 => absurd c8 (by omega))
    refine G_aload_n (pc := 19) dX7_readTurn_19 rfl rfl ?_
    refine G_dup (pc := 20) dX7_readTurn_20 rfl ?_
    refine S_getI (pc := 21) dX7_readTurn_21 fX7_27 rfl (by first | rfl | assumption) rfl ?_
    rw [td_at]
    refine G_iconst (pc := 24) (v := nI 1) dX7_readTurn_24 (by decide) ?_
    refine N_iadd (pc := 25) dX7_readTurn_25 ?_
    refine S_putI (pc := 26) dX7_readTurn_26 fX7_27 (by decide) rfl (by first | rfl | assumption) rfl ?_
    refine G_iload_n (pc := 29) dX7_readTurn_29 rfl rfl ?_
    refine G_bipush (pc := 30) (v := nI 117) dX7_readTurn_30 (by decide) ?_
    refine N_icmp_ne (pc := 32) (tgt := 39) dX7_readTurn_32 (by decide) (by omega) (fun c32 => absurd c32 (by omega)) (fun c32 => ?_)
    refine G_iconst (pc := 35) (v := nI 1) dX7_readTurn_35 (by decide) ?_
    refine G_goto (pc := 36) (tgt := 40) dX7_readTurn_36 (by decide) ?_
    refine S_iret (pc := 40) dX7_readTurn_40 rfl ?_
    rw [upX_u]
    exact h
  rw [if_neg q1] at h
  by_cases q2 : lk T a = 108
  · rw [if_pos q2] at h
    refine G_aload_n (pc := 0) dX7_readTurn_0 rfl rfl ?_
    refine S_callV (av := []) (pc := 1) (z := mX7_look) (ci := 6) dX7_readTurn_1 zX7_look lX7_readTurn_42 rfl (by first | rfl | assumption) rfl rfl (sX7_look hT hd ha ⟨_, rfl, ?_⟩)
    refine G_istore_n (pc := 4) dX7_readTurn_4 rfl (by decide) rfl ?_
    refine G_iload_n (pc := 5) dX7_readTurn_5 rfl rfl ?_
    refine G_bipush (pc := 6) (v := nI 117) dX7_readTurn_6 (by decide) ?_
    refine N_icmp_eq (pc := 8) (tgt := 19) dX7_readTurn_8 (by decide) (by omega) (fun c8 => absurd c8 (by omega)) (fun c8 => ?_)
    refine G_iload_n (pc := 11) dX7_readTurn_11 rfl rfl ?_
    refine G_bipush (pc := 12) (v := nI 108) dX7_readTurn_12 (by decide) ?_
    refine N_icmp_eq (pc := 14) (tgt := 19) dX7_readTurn_14 (by decide) (by omega) (fun c14 => ?_) (fun c14 => absurd c14 (by omega))
    refine G_aload_n (pc := 19) dX7_readTurn_19 rfl rfl ?_
    refine G_dup (pc := 20) dX7_readTurn_20 rfl ?_
    refine S_getI (pc := 21) dX7_readTurn_21 fX7_27 rfl (by first | rfl | assumption) rfl ?_
    rw [td_at]
    refine G_iconst (pc := 24) (v := nI 1) dX7_readTurn_24 (by decide) ?_
    refine N_iadd (pc := 25) dX7_readTurn_25 ?_
    refine S_putI (pc := 26) dX7_readTurn_26 fX7_27 (by decide) rfl (by first | rfl | assumption) rfl ?_
    refine G_iload_n (pc := 29) dX7_readTurn_29 rfl rfl ?_
    refine G_bipush (pc := 30) (v := nI 117) dX7_readTurn_30 (by decide) ?_
    refine N_icmp_ne (pc := 32) (tgt := 39) dX7_readTurn_32 (by decide) (by omega) (fun c32 => ?_) (fun c32 => absurd c32 (by omega))
    refine G_iconst (pc := 39) (v := nI 2) dX7_readTurn_39 (by decide) ?_
    refine S_iret (pc := 40) dX7_readTurn_40 rfl ?_
    rw [upX_u]
    exact h
  rw [if_neg q2] at h
  refine G_aload_n (pc := 0) dX7_readTurn_0 rfl rfl ?_
  refine S_callV (av := []) (pc := 1) (z := mX7_look) (ci := 6) dX7_readTurn_1 zX7_look lX7_readTurn_42 rfl (by first | rfl | assumption) rfl rfl (sX7_look hT hd ha ⟨_, rfl, ?_⟩)
  refine G_istore_n (pc := 4) dX7_readTurn_4 rfl (by decide) rfl ?_
  refine G_iload_n (pc := 5) dX7_readTurn_5 rfl rfl ?_
  refine G_bipush (pc := 6) (v := nI 117) dX7_readTurn_6 (by decide) ?_
  refine N_icmp_eq (pc := 8) (tgt := 19) dX7_readTurn_8 (by decide) (by omega) (fun c8 => absurd c8 (by omega)) (fun c8 => ?_)
  refine G_iload_n (pc := 11) dX7_readTurn_11 rfl rfl ?_
  refine G_bipush (pc := 12) (v := nI 108) dX7_readTurn_12 (by decide) ?_
  refine N_icmp_eq (pc := 14) (tgt := 19) dX7_readTurn_14 (by decide) (by omega) (fun c14 => absurd c14 (by omega)) (fun c14 => ?_)
  refine G_iconst (pc := 17) (v := nI 0) dX7_readTurn_17 (by decide) ?_
  refine S_iret (pc := 18) dX7_readTurn_18 rfl ?_
  exact h
theorem PgIs.up283 {ps : List Nat} {v : Int32} (h : PgIs S 284 ps) : PgIs (upX S 283 2 v) 284 ps := ⟨(upX_n (by omega)).trans h.1, h.2⟩
theorem pgk284 : PgK 284 := ⟨rfl, rfl⟩
set_option maxRecDepth 100000 in
set_option maxHeartbeats 4000000 in
theorem sX7_readCut (hT : TpT S0 T) (hd : TdT S T) {a : Nat} {ps : List Nat} (hp : PgIs S 284 ps) (hl : ps.length < 3) (ha : a ≤ T.length) (h0 : ∀ b, rdC T a = (none, b) → Q (some (aI (bI false))) (mk (upX S 283 2 (nI b))))
    (h1 : ∀ p b S', rdC T a = (some p, b) → Fr (pgX 284) (pgA 284) (upX S 283 2 (nI b)) S' → PgIs S' 284 (ps ++ [p]) → Q (some (aI (bI true))) (mk S')) : CT sc mX7_readCut [aR 283] (mk (upX S 283 2 (nI a))) Q := by
  refine S_of (by decide) rfl ?_
  show G sc mX7_readCut 0 [some (aR 283), none, none] [] (mk (upX S 283 2 (nI a))) Q
  have ok := rdP_ok hT ha
  rcases hr : rdP T a with ⟨_ | f, b⟩
  · rw [hr] at ok
    have h0 := h0 b (rdC_0 hr)
    refine G_aload_n (pc := 0) dX7_readCut_0 rfl rfl ?_
    refine S_callV (av := []) (pc := 1) (z := mX7_readPlace) (ci := 6) dX7_readCut_1 zX7_readPlace lX7_readCut_72 rfl (by first | rfl | assumption) rfl rfl (sX7_readPlace hT hd ha ⟨_, rfl, ?_⟩)
    rw [hr]
    refine G_istore_n (pc := 4) dX7_readCut_4 rfl (by decide) rfl ?_
    refine G_iload_n (pc := 5) dX7_readCut_5 rfl rfl ?_
    dsimp only [midI]
    refine G_iconst (pc := 6) (v := (-1)) dX7_readCut_6 (by decide) ?_
    refine T_icmp_eq (pc := 7) (tgt := 19) dX7_readCut_7 (by decide) (fun c7 => ?_) (fun c7 => absurd c7 (by decide))
    refine G_iconst (pc := 19) (v := nI 0) dX7_readCut_19 (by decide) ?_
    refine S_zret (pc := 20) dX7_readCut_20 rfl rfl ?_
    exact h0
  · rw [hr] at ok
    have okf := ok.1 f rfl
    have okb : b ≤ T.length := ok.2
    have hb := (lk_b hT b).1
    have nf : ¬ (nI f).toInt = (-1 : Int32).toInt := by
      have z1 : (-1 : Int32).toInt = -1 := rfl
      rw [z1, nIt (by omega)]; omega
    by_cases q : lk T b = 44
    · have hn : sk T b + 1 ≤ T.length := by have := lk_sk2 hT (a := b) (by omega); omega
      have ok2 := rdP_ok hT hn
      rcases hr2 : rdP T (sk T b + 1) with ⟨_ | t, c⟩
      · have h0 := h0 c (rdC_2 hr q hr2)
        refine G_aload_n (pc := 0) dX7_readCut_0 rfl rfl ?_
        refine S_callV (av := []) (pc := 1) (z := mX7_readPlace) (ci := 6) dX7_readCut_1 zX7_readPlace lX7_readCut_72 rfl (by first | rfl | assumption) rfl rfl (sX7_readPlace hT hd ha ⟨_, rfl, ?_⟩)
        rw [hr]
        refine G_istore_n (pc := 4) dX7_readCut_4 rfl (by decide) rfl ?_
        refine G_iload_n (pc := 5) dX7_readCut_5 rfl rfl ?_
        dsimp only [midI]
        refine G_iconst (pc := 6) (v := (-1)) dX7_readCut_6 (by decide) ?_
        refine T_icmp_eq (pc := 7) (tgt := 19) dX7_readCut_7 (by decide) (fun c7 => absurd c7 (nf)) (fun c7 => ?_)
        refine G_aload_n (pc := 10) dX7_readCut_10 rfl rfl ?_
        refine S_callV (av := []) (pc := 11) (z := mX7_look) (ci := 6) dX7_readCut_11 zX7_look lX7_readCut_42 rfl (by first | rfl | assumption) rfl rfl (sX7_look hT hd okb ⟨_, rfl, ?_⟩)
        refine G_bipush (pc := 14) (v := nI 44) dX7_readCut_14 (by decide) ?_
        refine N_icmp_eq (pc := 16) (tgt := 21) dX7_readCut_16 (by decide) (by omega) (fun c16 => ?_) (fun c16 => absurd c16 (by omega))
        refine G_aload_n (pc := 21) dX7_readCut_21 rfl rfl ?_
        refine G_dup (pc := 22) dX7_readCut_22 rfl ?_
        refine S_getI (pc := 23) dX7_readCut_23 fX7_27 rfl (by first | rfl | assumption) rfl ?_
        rw [td_at]
        refine G_iconst (pc := 26) (v := nI 1) dX7_readCut_26 (by decide) ?_
        refine N_iadd (pc := 27) dX7_readCut_27 ?_
        refine S_putI (pc := 28) dX7_readCut_28 fX7_27 (by decide) rfl (by first | rfl | assumption) rfl ?_
        refine G_aload_n (pc := 31) dX7_readCut_31 rfl rfl ?_
        rw [upX_u]
        refine S_callV (av := []) (pc := 32) (z := mX7_readPlace) (ci := 6) dX7_readCut_32 zX7_readPlace lX7_readCut_72 rfl (by first | rfl | assumption) rfl rfl (sX7_readPlace hT hd hn ⟨_, rfl, ?_⟩)
        rw [hr2]
        refine G_istore_n (pc := 35) dX7_readCut_35 rfl (by decide) rfl ?_
        refine G_iload_n (pc := 36) dX7_readCut_36 rfl rfl ?_
        dsimp only [midI]
        refine G_iconst (pc := 37) (v := (-1)) dX7_readCut_37 (by decide) ?_
        refine T_icmp_ne (pc := 38) (tgt := 43) dX7_readCut_38 (by decide) (fun c38 => absurd c38 (by decide)) (fun c38 => ?_)
        refine G_iconst (pc := 41) (v := nI 0) dX7_readCut_41 (by decide) ?_
        refine S_zret (pc := 42) dX7_readCut_42 rfl rfl ?_
        exact h0
      · rw [hr2] at ok2
        have okt := ok2.1 t rfl
        have okc : c ≤ T.length := ok2.2
        have nt : ¬ (nI t).toInt = (-1 : Int32).toInt := by
          have z1 : (-1 : Int32).toInt = -1 := rfl
          rw [z1, nIt (by omega)]; omega
        refine G_aload_n (pc := 0) dX7_readCut_0 rfl rfl ?_
        refine S_callV (av := []) (pc := 1) (z := mX7_readPlace) (ci := 6) dX7_readCut_1 zX7_readPlace lX7_readCut_72 rfl (by first | rfl | assumption) rfl rfl (sX7_readPlace hT hd ha ⟨_, rfl, ?_⟩)
        rw [hr]
        refine G_istore_n (pc := 4) dX7_readCut_4 rfl (by decide) rfl ?_
        refine G_iload_n (pc := 5) dX7_readCut_5 rfl rfl ?_
        dsimp only [midI]
        refine G_iconst (pc := 6) (v := (-1)) dX7_readCut_6 (by decide) ?_
        refine T_icmp_eq (pc := 7) (tgt := 19) dX7_readCut_7 (by decide) (fun c7 => absurd c7 (nf)) (fun c7 => ?_)
        refine G_aload_n (pc := 10) dX7_readCut_10 rfl rfl ?_
        refine S_callV (av := []) (pc := 11) (z := mX7_look) (ci := 6) dX7_readCut_11 zX7_look lX7_readCut_42 rfl (by first | rfl | assumption) rfl rfl (sX7_look hT hd okb ⟨_, rfl, ?_⟩)
        refine G_bipush (pc := 14) (v := nI 44) dX7_readCut_14 (by decide) ?_
        refine N_icmp_eq (pc := 16) (tgt := 21) dX7_readCut_16 (by decide) (by omega) (fun c16 => ?_) (fun c16 => absurd c16 (by omega))
        refine G_aload_n (pc := 21) dX7_readCut_21 rfl rfl ?_
        refine G_dup (pc := 22) dX7_readCut_22 rfl ?_
        refine S_getI (pc := 23) dX7_readCut_23 fX7_27 rfl (by first | rfl | assumption) rfl ?_
        rw [td_at]
        refine G_iconst (pc := 26) (v := nI 1) dX7_readCut_26 (by decide) ?_
        refine N_iadd (pc := 27) dX7_readCut_27 ?_
        refine S_putI (pc := 28) dX7_readCut_28 fX7_27 (by decide) rfl (by first | rfl | assumption) rfl ?_
        refine G_aload_n (pc := 31) dX7_readCut_31 rfl rfl ?_
        rw [upX_u]
        refine S_callV (av := []) (pc := 32) (z := mX7_readPlace) (ci := 6) dX7_readCut_32 zX7_readPlace lX7_readCut_72 rfl (by first | rfl | assumption) rfl rfl (sX7_readPlace hT hd hn ⟨_, rfl, ?_⟩)
        rw [hr2]
        refine G_istore_n (pc := 35) dX7_readCut_35 rfl (by decide) rfl ?_
        refine G_iload_n (pc := 36) dX7_readCut_36 rfl rfl ?_
        dsimp only [midI]
        refine G_iconst (pc := 37) (v := (-1)) dX7_readCut_37 (by decide) ?_
        refine T_icmp_ne (pc := 38) (tgt := 43) dX7_readCut_38 (by decide) (fun c38 => ?_) (fun c38 => absurd c38 (nt))
        skip
        refine G_aload_n (pc := 43) dX7_readCut_43 rfl rfl ?_
        refine S_getR (pc := 44) (b := 284) dX7_readCut_44 fX7_12 rfl rfl (by first | rfl | assumption) rfl rfl ?_
        refine G_bipush (pc := 47) (v := nI 120) dX7_readCut_47 (by decide) ?_
        refine G_iload_n (pc := 49) dX7_readCut_49 rfl rfl ?_
        refine N_imul (pc := 50) dX7_readCut_50 ?_
        refine G_iconst (pc := 51) (v := nI 3) dX7_readCut_51 (by decide) ?_
        refine G_iload_n (pc := 52) dX7_readCut_52 rfl rfl ?_
        refine N_imul (pc := 53) dX7_readCut_53 ?_
        refine N_iadd (pc := 54) dX7_readCut_54 ?_
        refine G_aload_n (pc := 55) dX7_readCut_55 rfl rfl ?_
        refine S_callV (av := []) (pc := 56) (z := mX7_readTurn) (ci := 6) dX7_readCut_56 zX7_readTurn lX7_readCut_75 rfl (by first | rfl | assumption) rfl rfl (sX7_readTurn hT hd okc ⟨_, rfl, ?_⟩)
        refine N_iadd (pc := 59) dX7_readCut_59 ?_
        refine S_callV (av := [_]) (pc := 60) (z := mX3_add) (ci := 2) dX7_readCut_60 zX3_add lX7_readCut_69 rfl (by first | rfl | assumption) rfl rfl (sX3_add pgk284 hp.up283 hl (fun S1 w1 w2 => ⟨_, rfl, ?_⟩))
        refine G_iconst (pc := 63) (v := nI 1) dX7_readCut_63 (by decide) ?_
        refine S_zret (pc := 64) dX7_readCut_64 rfl rfl ?_
        exact h1 _ _ S1 (rdC_3 hr q hr2) w1 w2
    · have h0 := h0 _ (rdC_1 hr q)
      refine G_aload_n (pc := 0) dX7_readCut_0 rfl rfl ?_
      refine S_callV (av := []) (pc := 1) (z := mX7_readPlace) (ci := 6) dX7_readCut_1 zX7_readPlace lX7_readCut_72 rfl (by first | rfl | assumption) rfl rfl (sX7_readPlace hT hd ha ⟨_, rfl, ?_⟩)
      rw [hr]
      refine G_istore_n (pc := 4) dX7_readCut_4 rfl (by decide) rfl ?_
      refine G_iload_n (pc := 5) dX7_readCut_5 rfl rfl ?_
      dsimp only [midI]
      refine G_iconst (pc := 6) (v := (-1)) dX7_readCut_6 (by decide) ?_
      refine T_icmp_eq (pc := 7) (tgt := 19) dX7_readCut_7 (by decide) (fun c7 => absurd c7 (nf)) (fun c7 => ?_)
      refine G_aload_n (pc := 10) dX7_readCut_10 rfl rfl ?_
      refine S_callV (av := []) (pc := 11) (z := mX7_look) (ci := 6) dX7_readCut_11 zX7_look lX7_readCut_42 rfl (by first | rfl | assumption) rfl rfl (sX7_look hT hd okb ⟨_, rfl, ?_⟩)
      refine G_bipush (pc := 14) (v := nI 44) dX7_readCut_14 (by decide) ?_
      refine N_icmp_eq (pc := 16) (tgt := 21) dX7_readCut_16 (by decide) (by omega) (fun c16 => absurd c16 (by omega)) (fun c16 => ?_)
      refine G_iconst (pc := 19) (v := nI 0) dX7_readCut_19 (by decide) ?_
      refine S_zret (pc := 20) dX7_readCut_20 rfl rfl ?_
      exact h0
set_option maxRecDepth 100000 in
set_option maxHeartbeats 4000000 in
theorem rTyped_lp (hT : TpT S0 T) {ps : List Nat} (hl : ps.length < 3) :
    ∀ (f m v a : Nat) (o3 : Option AV) (S : ST), TdT S T → PgIs S 284 ps → m + f = 3 → a ≤ T.length → v < 256 ^ m → (∀ b, tyE T (tyL T f m v a) = (none, b) → Q (some (aI (bI false))) (mk (upX S 283 2 (nI b)))) →
      (∀ p b S', tyE T (tyL T f m v a) = (some p, b) → Fr (pgX 284) (pgA 284) (upX S 283 2 (nI b)) S' → PgIs S' 284 (ps ++ [p]) → Q (some (aI (bI true))) (mk S')) →
      G sc mX7_readTyped 4 [some (aR 283), some (aI (nI v)), some (aI (nI m)), o3] [] (mk (upX S 283 2 (nI a))) Q := by
  have hl60 := hT.2.1
  intro f
  induction f with
  | zero =>
    intro m v a o3 S hd hp hm ha hv h0 h1
    have hm : m = 3 := by omega
    subst hm
    by_cases hb : a < T.length
    · have hbb := hT.2.2 a hb
      by_cases q : T.getD a 0 = 34
      · have e : tyE T (tyL T 0 3 v a) = (some (16777216 * 3 + v), a + 1) := if_neg (show ¬ (3 = 0 ∨ a = T.length ∨ ¬ T.getD a 0 = 34) by omega)
        refine G_iload_n (pc := 4) dX7_readTyped_4 rfl rfl ?_
        refine G_iconst (pc := 5) (v := nI 3) dX7_readTyped_5 (by decide) ?_
        refine N_icmp_gt (pc := 6) (tgt := 103) dX7_readTyped_6 (by decide) (by omega) (fun c6 => absurd c6 (by omega)) (fun c6 => ?_)
        refine G_aload_n (pc := 9) dX7_readTyped_9 rfl rfl ?_
        refine S_getI (pc := 10) dX7_readTyped_10 fX7_27 rfl (by first | rfl | assumption) rfl ?_
        rw [td_at]
        refine G_aload_n (pc := 13) dX7_readTyped_13 rfl rfl ?_
        refine S_getR (pc := 14) (b := 286) dX7_readTyped_14 fX7_23 rfl rfl (by first | rfl | assumption) rfl rfl ?_
        refine S_getI (pc := 17) dX7_readTyped_17 fX7_55 rfl (by first | rfl | assumption) rfl ?_
        rw [td_n hd]
        refine N_icmp_ge (pc := 20) (tgt := 103) dX7_readTyped_20 (by decide) (by omega) (fun c20 => absurd c20 (by omega)) (fun c20 => ?_)
        refine G_aload_n (pc := 23) dX7_readTyped_23 rfl rfl ?_
        refine S_getR (pc := 24) (b := 286) dX7_readTyped_24 fX7_23 rfl rfl (by first | rfl | assumption) rfl rfl ?_
        refine S_getR (pc := 27) (b := 287) dX7_readTyped_27 fX7_58 rfl rfl (by first | rfl | assumption) rfl rfl ?_
        refine G_aload_n (pc := 30) dX7_readTyped_30 rfl rfl ?_
        refine S_getI (pc := 31) dX7_readTyped_31 fX7_27 rfl (by first | rfl | assumption) rfl ?_
        rw [td_at]
        refine N_bald (pc := 34) dX7_readTyped_34 (by first | rfl | assumption) (by first | rfl | assumption) (by omega) ?_
        rw [td_a hd hb]
        refine G_istore_n (pc := 35) dX7_readTyped_35 rfl (by decide) rfl ?_
        refine G_iload_n (pc := 36) dX7_readTyped_36 rfl rfl ?_
        refine G_bipush (pc := 37) (v := nI 34) dX7_readTyped_37 (by decide) ?_
        refine N_icmp_ne (pc := 39) (tgt := 73) dX7_readTyped_39 (by decide) (by omega) (fun c39 => absurd c39 (by omega)) (fun c39 => ?_)
        refine G_iload_n (pc := 42) dX7_readTyped_42 rfl rfl ?_
        refine N_if_ne (pc := 43) (tgt := 48) dX7_readTyped_43 (by decide) (by omega) (fun c43 => ?_) (fun c43 => absurd c43 (by omega))
        refine G_aload_n (pc := 48) dX7_readTyped_48 rfl rfl ?_
        refine G_dup (pc := 49) dX7_readTyped_49 rfl ?_
        refine S_getI (pc := 50) dX7_readTyped_50 fX7_27 rfl (by first | rfl | assumption) rfl ?_
        rw [td_at]
        refine G_iconst (pc := 53) (v := nI 1) dX7_readTyped_53 (by decide) ?_
        refine N_iadd (pc := 54) dX7_readTyped_54 ?_
        refine S_putI (pc := 55) dX7_readTyped_55 fX7_27 (by decide) rfl (by first | rfl | assumption) rfl ?_
        refine G_aload_n (pc := 58) dX7_readTyped_58 rfl rfl ?_
        rw [upX_u]
        refine S_getR (pc := 59) (b := 284) dX7_readTyped_59 fX7_12 rfl rfl (by first | rfl | assumption) rfl rfl ?_
        refine G_iload_n (pc := 62) dX7_readTyped_62 rfl rfl ?_
        refine G_ldc (pc := 63) dX7_readTyped_63 kX7_68 ?_
        refine N_imul (pc := 65) dX7_readTyped_65 ?_
        refine G_iload_n (pc := 66) dX7_readTyped_66 rfl rfl ?_
        rw [Nat.mul_comm 3 16777216]
        refine N_iadd (pc := 67) dX7_readTyped_67 ?_
        refine S_callV (av := [_]) (pc := 68) (z := mX3_add) (ci := 2) dX7_readTyped_68 zX3_add lX7_readTyped_69 rfl (by first | rfl | assumption) rfl rfl (sX3_add pgk284 hp.up283 hl (fun S1 w1 w2 => ⟨_, rfl, ?_⟩))
        refine G_iconst (pc := 71) (v := nI 1) dX7_readTyped_71 (by decide) ?_
        refine S_zret (pc := 72) dX7_readTyped_72 rfl rfl ?_
        exact h1 _ _ S1 e w1 w2
      · have e : tyE T (tyL T 0 3 v a) = (none, a) := if_pos (show (3 = 0 ∨ a = T.length ∨ ¬ T.getD a 0 = 34) by omega)
        refine G_iload_n (pc := 4) dX7_readTyped_4 rfl rfl ?_
        refine G_iconst (pc := 5) (v := nI 3) dX7_readTyped_5 (by decide) ?_
        refine N_icmp_gt (pc := 6) (tgt := 103) dX7_readTyped_6 (by decide) (by omega) (fun c6 => absurd c6 (by omega)) (fun c6 => ?_)
        refine G_aload_n (pc := 9) dX7_readTyped_9 rfl rfl ?_
        refine S_getI (pc := 10) dX7_readTyped_10 fX7_27 rfl (by first | rfl | assumption) rfl ?_
        rw [td_at]
        refine G_aload_n (pc := 13) dX7_readTyped_13 rfl rfl ?_
        refine S_getR (pc := 14) (b := 286) dX7_readTyped_14 fX7_23 rfl rfl (by first | rfl | assumption) rfl rfl ?_
        refine S_getI (pc := 17) dX7_readTyped_17 fX7_55 rfl (by first | rfl | assumption) rfl ?_
        rw [td_n hd]
        refine N_icmp_ge (pc := 20) (tgt := 103) dX7_readTyped_20 (by decide) (by omega) (fun c20 => absurd c20 (by omega)) (fun c20 => ?_)
        refine G_aload_n (pc := 23) dX7_readTyped_23 rfl rfl ?_
        refine S_getR (pc := 24) (b := 286) dX7_readTyped_24 fX7_23 rfl rfl (by first | rfl | assumption) rfl rfl ?_
        refine S_getR (pc := 27) (b := 287) dX7_readTyped_27 fX7_58 rfl rfl (by first | rfl | assumption) rfl rfl ?_
        refine G_aload_n (pc := 30) dX7_readTyped_30 rfl rfl ?_
        refine S_getI (pc := 31) dX7_readTyped_31 fX7_27 rfl (by first | rfl | assumption) rfl ?_
        rw [td_at]
        refine N_bald (pc := 34) dX7_readTyped_34 (by first | rfl | assumption) (by first | rfl | assumption) (by omega) ?_
        rw [td_a hd hb]
        refine G_istore_n (pc := 35) dX7_readTyped_35 rfl (by decide) rfl ?_
        refine G_iload_n (pc := 36) dX7_readTyped_36 rfl rfl ?_
        refine G_bipush (pc := 37) (v := nI 34) dX7_readTyped_37 (by decide) ?_
        refine N_icmp_ne (pc := 39) (tgt := 73) dX7_readTyped_39 (by decide) (by omega) (fun c39 => ?_) (fun c39 => absurd c39 (by omega))
        refine G_iload_n (pc := 73) dX7_readTyped_73 rfl rfl ?_
        refine G_iconst (pc := 74) (v := nI 3) dX7_readTyped_74 (by decide) ?_
        refine N_icmp_ne (pc := 75) (tgt := 80) dX7_readTyped_75 (by decide) (by omega) (fun c75 => absurd c75 (by omega)) (fun c75 => ?_)
        refine G_iconst (pc := 78) (v := nI 0) dX7_readTyped_78 (by decide) ?_
        refine S_zret (pc := 79) dX7_readTyped_79 rfl rfl ?_
        exact h0 _ e
    · have e : tyE T (tyL T 0 3 v a) = (none, a) := if_pos (show (3 = 0 ∨ a = T.length ∨ ¬ T.getD a 0 = 34) by omega)
      refine G_iload_n (pc := 4) dX7_readTyped_4 rfl rfl ?_
      refine G_iconst (pc := 5) (v := nI 3) dX7_readTyped_5 (by decide) ?_
      refine N_icmp_gt (pc := 6) (tgt := 103) dX7_readTyped_6 (by decide) (by omega) (fun c6 => absurd c6 (by omega)) (fun c6 => ?_)
      refine G_aload_n (pc := 9) dX7_readTyped_9 rfl rfl ?_
      refine S_getI (pc := 10) dX7_readTyped_10 fX7_27 rfl (by first | rfl | assumption) rfl ?_
      rw [td_at]
      refine G_aload_n (pc := 13) dX7_readTyped_13 rfl rfl ?_
      refine S_getR (pc := 14) (b := 286) dX7_readTyped_14 fX7_23 rfl rfl (by first | rfl | assumption) rfl rfl ?_
      refine S_getI (pc := 17) dX7_readTyped_17 fX7_55 rfl (by first | rfl | assumption) rfl ?_
      rw [td_n hd]
      refine N_icmp_ge (pc := 20) (tgt := 103) dX7_readTyped_20 (by decide) (by omega) (fun c20 => ?_) (fun c20 => absurd c20 (by omega))
      refine G_iconst (pc := 103) (v := nI 0) dX7_readTyped_103 (by decide) ?_
      refine S_zret (pc := 104) dX7_readTyped_104 rfl rfl ?_
      exact h0 _ e
  | succ f ih =>
    intro m v a o3 S hd hp hm ha hv h0 h1
    have hm2 : 256 ^ m ≤ 65536 := by rcases (show m = 0 ∨ m = 1 ∨ m = 2 by omega) with rfl | rfl | rfl <;> decide
    by_cases hb : a < T.length
    · have hbb := hT.2.2 a hb
      by_cases q : T.getD a 0 = 34
      · have eL : tyL T (f + 1) m v a = (m, v, a) := by conv => lhs; unfold tyL; rw [if_neg (fun z => z.2 q)]
        rw [eL] at h0 h1
        by_cases hm0 : m = 0
        · have e : tyE T (m, v, a) = (none, a) := if_pos (Or.inl hm0)
          refine G_iload_n (pc := 4) dX7_readTyped_4 rfl rfl ?_
          refine G_iconst (pc := 5) (v := nI 3) dX7_readTyped_5 (by decide) ?_
          refine N_icmp_gt (pc := 6) (tgt := 103) dX7_readTyped_6 (by decide) (by omega) (fun c6 => absurd c6 (by omega)) (fun c6 => ?_)
          refine G_aload_n (pc := 9) dX7_readTyped_9 rfl rfl ?_
          refine S_getI (pc := 10) dX7_readTyped_10 fX7_27 rfl (by first | rfl | assumption) rfl ?_
          rw [td_at]
          refine G_aload_n (pc := 13) dX7_readTyped_13 rfl rfl ?_
          refine S_getR (pc := 14) (b := 286) dX7_readTyped_14 fX7_23 rfl rfl (by first | rfl | assumption) rfl rfl ?_
          refine S_getI (pc := 17) dX7_readTyped_17 fX7_55 rfl (by first | rfl | assumption) rfl ?_
          rw [td_n hd]
          refine N_icmp_ge (pc := 20) (tgt := 103) dX7_readTyped_20 (by decide) (by omega) (fun c20 => absurd c20 (by omega)) (fun c20 => ?_)
          refine G_aload_n (pc := 23) dX7_readTyped_23 rfl rfl ?_
          refine S_getR (pc := 24) (b := 286) dX7_readTyped_24 fX7_23 rfl rfl (by first | rfl | assumption) rfl rfl ?_
          refine S_getR (pc := 27) (b := 287) dX7_readTyped_27 fX7_58 rfl rfl (by first | rfl | assumption) rfl rfl ?_
          refine G_aload_n (pc := 30) dX7_readTyped_30 rfl rfl ?_
          refine S_getI (pc := 31) dX7_readTyped_31 fX7_27 rfl (by first | rfl | assumption) rfl ?_
          rw [td_at]
          refine N_bald (pc := 34) dX7_readTyped_34 (by first | rfl | assumption) (by first | rfl | assumption) (by omega) ?_
          rw [td_a hd hb]
          refine G_istore_n (pc := 35) dX7_readTyped_35 rfl (by decide) rfl ?_
          refine G_iload_n (pc := 36) dX7_readTyped_36 rfl rfl ?_
          refine G_bipush (pc := 37) (v := nI 34) dX7_readTyped_37 (by decide) ?_
          refine N_icmp_ne (pc := 39) (tgt := 73) dX7_readTyped_39 (by decide) (by omega) (fun c39 => absurd c39 (by omega)) (fun c39 => ?_)
          refine G_iload_n (pc := 42) dX7_readTyped_42 rfl rfl ?_
          refine N_if_ne (pc := 43) (tgt := 48) dX7_readTyped_43 (by decide) (by omega) (fun c43 => absurd c43 (by omega)) (fun c43 => ?_)
          refine G_iconst (pc := 46) (v := nI 0) dX7_readTyped_46 (by decide) ?_
          refine S_zret (pc := 47) dX7_readTyped_47 rfl rfl ?_
          exact h0 _ e
        · have e : tyE T (m, v, a) = (some (16777216 * m + v), a + 1) := if_neg (show ¬ (m = 0 ∨ a = T.length ∨ ¬ T.getD a 0 = 34) by omega)
          refine G_iload_n (pc := 4) dX7_readTyped_4 rfl rfl ?_
          refine G_iconst (pc := 5) (v := nI 3) dX7_readTyped_5 (by decide) ?_
          refine N_icmp_gt (pc := 6) (tgt := 103) dX7_readTyped_6 (by decide) (by omega) (fun c6 => absurd c6 (by omega)) (fun c6 => ?_)
          refine G_aload_n (pc := 9) dX7_readTyped_9 rfl rfl ?_
          refine S_getI (pc := 10) dX7_readTyped_10 fX7_27 rfl (by first | rfl | assumption) rfl ?_
          rw [td_at]
          refine G_aload_n (pc := 13) dX7_readTyped_13 rfl rfl ?_
          refine S_getR (pc := 14) (b := 286) dX7_readTyped_14 fX7_23 rfl rfl (by first | rfl | assumption) rfl rfl ?_
          refine S_getI (pc := 17) dX7_readTyped_17 fX7_55 rfl (by first | rfl | assumption) rfl ?_
          rw [td_n hd]
          refine N_icmp_ge (pc := 20) (tgt := 103) dX7_readTyped_20 (by decide) (by omega) (fun c20 => absurd c20 (by omega)) (fun c20 => ?_)
          refine G_aload_n (pc := 23) dX7_readTyped_23 rfl rfl ?_
          refine S_getR (pc := 24) (b := 286) dX7_readTyped_24 fX7_23 rfl rfl (by first | rfl | assumption) rfl rfl ?_
          refine S_getR (pc := 27) (b := 287) dX7_readTyped_27 fX7_58 rfl rfl (by first | rfl | assumption) rfl rfl ?_
          refine G_aload_n (pc := 30) dX7_readTyped_30 rfl rfl ?_
          refine S_getI (pc := 31) dX7_readTyped_31 fX7_27 rfl (by first | rfl | assumption) rfl ?_
          rw [td_at]
          refine N_bald (pc := 34) dX7_readTyped_34 (by first | rfl | assumption) (by first | rfl | assumption) (by omega) ?_
          rw [td_a hd hb]
          refine G_istore_n (pc := 35) dX7_readTyped_35 rfl (by decide) rfl ?_
          refine G_iload_n (pc := 36) dX7_readTyped_36 rfl rfl ?_
          refine G_bipush (pc := 37) (v := nI 34) dX7_readTyped_37 (by decide) ?_
          refine N_icmp_ne (pc := 39) (tgt := 73) dX7_readTyped_39 (by decide) (by omega) (fun c39 => absurd c39 (by omega)) (fun c39 => ?_)
          refine G_iload_n (pc := 42) dX7_readTyped_42 rfl rfl ?_
          refine N_if_ne (pc := 43) (tgt := 48) dX7_readTyped_43 (by decide) (by omega) (fun c43 => ?_) (fun c43 => absurd c43 (by omega))
          refine G_aload_n (pc := 48) dX7_readTyped_48 rfl rfl ?_
          refine G_dup (pc := 49) dX7_readTyped_49 rfl ?_
          refine S_getI (pc := 50) dX7_readTyped_50 fX7_27 rfl (by first | rfl | assumption) rfl ?_
          rw [td_at]
          refine G_iconst (pc := 53) (v := nI 1) dX7_readTyped_53 (by decide) ?_
          refine N_iadd (pc := 54) dX7_readTyped_54 ?_
          refine S_putI (pc := 55) dX7_readTyped_55 fX7_27 (by decide) rfl (by first | rfl | assumption) rfl ?_
          refine G_aload_n (pc := 58) dX7_readTyped_58 rfl rfl ?_
          rw [upX_u]
          refine S_getR (pc := 59) (b := 284) dX7_readTyped_59 fX7_12 rfl rfl (by first | rfl | assumption) rfl rfl ?_
          refine G_iload_n (pc := 62) dX7_readTyped_62 rfl rfl ?_
          refine G_ldc (pc := 63) dX7_readTyped_63 kX7_68 ?_
          refine N_imul (pc := 65) dX7_readTyped_65 ?_
          refine G_iload_n (pc := 66) dX7_readTyped_66 rfl rfl ?_
          rw [Nat.mul_comm m 16777216]
          refine N_iadd (pc := 67) dX7_readTyped_67 ?_
          refine S_callV (av := [_]) (pc := 68) (z := mX3_add) (ci := 2) dX7_readTyped_68 zX3_add lX7_readTyped_69 rfl (by first | rfl | assumption) rfl rfl (sX3_add pgk284 hp.up283 hl (fun S1 w1 w2 => ⟨_, rfl, ?_⟩))
          refine G_iconst (pc := 71) (v := nI 1) dX7_readTyped_71 (by decide) ?_
          refine S_zret (pc := 72) dX7_readTyped_72 rfl rfl ?_
          exact h1 _ _ S1 e w1 w2
      · have eL : tyL T (f + 1) m v a = tyL T f (m + 1) (256 * v + T.getD a 0) (a + 1) := by conv => lhs; unfold tyL; rw [if_pos ⟨hb, q⟩]
        rw [eL] at h0 h1
        have eo : nI v <<< (nI 8 &&& 31) ||| nI (T.getD a 0) = nI (256 * v + T.getD a 0) := by
          rw [shlN (by omega) (by omega), Int32.or_comm, orN v (by omega)]
          congr 1
          omega
        refine G_iload_n (pc := 4) dX7_readTyped_4 rfl rfl ?_
        refine G_iconst (pc := 5) (v := nI 3) dX7_readTyped_5 (by decide) ?_
        refine N_icmp_gt (pc := 6) (tgt := 103) dX7_readTyped_6 (by decide) (by omega) (fun c6 => absurd c6 (by omega)) (fun c6 => ?_)
        refine G_aload_n (pc := 9) dX7_readTyped_9 rfl rfl ?_
        refine S_getI (pc := 10) dX7_readTyped_10 fX7_27 rfl (by first | rfl | assumption) rfl ?_
        rw [td_at]
        refine G_aload_n (pc := 13) dX7_readTyped_13 rfl rfl ?_
        refine S_getR (pc := 14) (b := 286) dX7_readTyped_14 fX7_23 rfl rfl (by first | rfl | assumption) rfl rfl ?_
        refine S_getI (pc := 17) dX7_readTyped_17 fX7_55 rfl (by first | rfl | assumption) rfl ?_
        rw [td_n hd]
        refine N_icmp_ge (pc := 20) (tgt := 103) dX7_readTyped_20 (by decide) (by omega) (fun c20 => absurd c20 (by omega)) (fun c20 => ?_)
        refine G_aload_n (pc := 23) dX7_readTyped_23 rfl rfl ?_
        refine S_getR (pc := 24) (b := 286) dX7_readTyped_24 fX7_23 rfl rfl (by first | rfl | assumption) rfl rfl ?_
        refine S_getR (pc := 27) (b := 287) dX7_readTyped_27 fX7_58 rfl rfl (by first | rfl | assumption) rfl rfl ?_
        refine G_aload_n (pc := 30) dX7_readTyped_30 rfl rfl ?_
        refine S_getI (pc := 31) dX7_readTyped_31 fX7_27 rfl (by first | rfl | assumption) rfl ?_
        rw [td_at]
        refine N_bald (pc := 34) dX7_readTyped_34 (by first | rfl | assumption) (by first | rfl | assumption) (by omega) ?_
        rw [td_a hd hb]
        refine G_istore_n (pc := 35) dX7_readTyped_35 rfl (by decide) rfl ?_
        refine G_iload_n (pc := 36) dX7_readTyped_36 rfl rfl ?_
        refine G_bipush (pc := 37) (v := nI 34) dX7_readTyped_37 (by decide) ?_
        refine N_icmp_ne (pc := 39) (tgt := 73) dX7_readTyped_39 (by decide) (by omega) (fun c39 => ?_) (fun c39 => absurd c39 (by omega))
        refine G_iload_n (pc := 73) dX7_readTyped_73 rfl rfl ?_
        refine G_iconst (pc := 74) (v := nI 3) dX7_readTyped_74 (by decide) ?_
        refine N_icmp_ne (pc := 75) (tgt := 80) dX7_readTyped_75 (by decide) (by omega) (fun c75 => ?_) (fun c75 => absurd c75 (by omega))
        refine G_iload_n (pc := 80) dX7_readTyped_80 rfl rfl ?_
        refine G_bipush (pc := 81) (v := nI 8) dX7_readTyped_81 (by decide) ?_
        refine G_ishl (pc := 83) dX7_readTyped_83 ?_
        refine G_iload_n (pc := 84) dX7_readTyped_84 rfl rfl ?_
        refine G_ior (pc := 85) dX7_readTyped_85 ?_
        rw [eo]
        refine G_istore_n (pc := 86) dX7_readTyped_86 rfl (by decide) rfl ?_
        refine G_aload_n (pc := 87) dX7_readTyped_87 rfl rfl ?_
        refine G_dup (pc := 88) dX7_readTyped_88 rfl ?_
        refine S_getI (pc := 89) dX7_readTyped_89 fX7_27 rfl (by first | rfl | assumption) rfl ?_
        rw [td_at]
        refine G_iconst (pc := 92) (v := nI 1) dX7_readTyped_92 (by decide) ?_
        refine N_iadd (pc := 93) dX7_readTyped_93 ?_
        refine S_putI (pc := 94) dX7_readTyped_94 fX7_27 (by decide) rfl (by first | rfl | assumption) rfl ?_
        refine N_iinc (pc := 97) dX7_readTyped_97 rfl (by decide) rfl ?_
        refine G_goto (pc := 100) (tgt := 4) dX7_readTyped_100 (by decide) ?_
        rw [upX_u]
        exact ih (m + 1) _ (a + 1) _ S hd hp (by omega) (by omega) (by rw [Nat.pow_succ]; omega) h0 h1
    · have eL : tyL T (f + 1) m v a = (m, v, a) := by conv => lhs; unfold tyL; rw [if_neg (fun z => hb z.1)]
      rw [eL] at h0 h1
      have e : tyE T (m, v, a) = (none, a) := if_pos (show (m = 0 ∨ a = T.length ∨ ¬ T.getD a 0 = 34) by omega)
      refine G_iload_n (pc := 4) dX7_readTyped_4 rfl rfl ?_
      refine G_iconst (pc := 5) (v := nI 3) dX7_readTyped_5 (by decide) ?_
      refine N_icmp_gt (pc := 6) (tgt := 103) dX7_readTyped_6 (by decide) (by omega) (fun c6 => absurd c6 (by omega)) (fun c6 => ?_)
      refine G_aload_n (pc := 9) dX7_readTyped_9 rfl rfl ?_
      refine S_getI (pc := 10) dX7_readTyped_10 fX7_27 rfl (by first | rfl | assumption) rfl ?_
      rw [td_at]
      refine G_aload_n (pc := 13) dX7_readTyped_13 rfl rfl ?_
      refine S_getR (pc := 14) (b := 286) dX7_readTyped_14 fX7_23 rfl rfl (by first | rfl | assumption) rfl rfl ?_
      refine S_getI (pc := 17) dX7_readTyped_17 fX7_55 rfl (by first | rfl | assumption) rfl ?_
      rw [td_n hd]
      refine N_icmp_ge (pc := 20) (tgt := 103) dX7_readTyped_20 (by decide) (by omega) (fun c20 => ?_) (fun c20 => absurd c20 (by omega))
      refine G_iconst (pc := 103) (v := nI 0) dX7_readTyped_103 (by decide) ?_
      refine S_zret (pc := 104) dX7_readTyped_104 rfl rfl ?_
      exact h0 _ e
set_option maxRecDepth 100000 in
set_option maxHeartbeats 4000000 in
theorem sX7_readTyped (hT : TpT S0 T) (hd : TdT S T) {a : Nat} {ps : List Nat} (hp : PgIs S 284 ps) (hl : ps.length < 3) (ha : a < T.length) (h0 : ∀ b, rdT T a = (none, b) → Q (some (aI (bI false))) (mk (upX S 283 2 (nI b))))
    (h1 : ∀ p b S', rdT T a = (some p, b) → Fr (pgX 284) (pgA 284) (upX S 283 2 (nI b)) S' → PgIs S' 284 (ps ++ [p]) → Q (some (aI (bI true))) (mk S')) : CT sc mX7_readTyped [aR 283] (mk (upX S 283 2 (nI (a + 1)))) Q := by
  refine S_of (by decide) rfl ?_
  show G sc mX7_readTyped 0 [some (aR 283), none, none, none] [] (mk (upX S 283 2 (nI (a + 1)))) Q
  refine G_iconst (pc := 0) (v := nI 0) dX7_readTyped_0 (by decide) ?_
  refine G_istore_n (pc := 1) dX7_readTyped_1 rfl (by decide) rfl ?_
  refine G_iconst (pc := 2) (v := nI 0) dX7_readTyped_2 (by decide) ?_
  refine G_istore_n (pc := 3) dX7_readTyped_3 rfl (by decide) rfl ?_
  exact rTyped_lp hT hl 3 0 0 (a + 1) _ S hd hp (by omega) (by omega) (by decide) h0 h1
set_option maxRecDepth 100000 in
set_option maxHeartbeats 4000000 in
theorem sX7_readPiece (hT : TpT S0 T) (hd : TdT S T) {a : Nat} {ps : List Nat} (hp : PgIs S 284 ps) (hl : ps.length < 3) (ha : a ≤ T.length) (h0 : ∀ b, rd1 T a = (none, b) → Q (some (aI (bI false))) (mk (upX S 283 2 (nI b))))
    (h1 : ∀ p b S', rd1 T a = (some p, b) → Fr (pgX 284) (pgA 284) (upX S 283 2 (nI b)) S' → PgIs S' 284 (ps ++ [p]) → Q (some (aI (bI true))) (mk S')) : CT sc mX7_readPiece [aR 283] (mk (upX S 283 2 (nI a))) Q := by
  refine S_of (by decide) rfl ?_
  show G sc mX7_readPiece 0 [some (aR 283)] [] (mk (upX S 283 2 (nI a))) Q
  have hb := (lk_b hT a).1
  have hs := sk_le ha
  by_cases q : lk T a = 34
  · have e : rd1 T a = rdT T (sk T a) := if_pos q
    have hlt := lk_sk2 hT (a := a) (by omega)
    rw [e] at h0 h1
    refine G_aload_n (pc := 0) dX7_readPiece_0 rfl rfl ?_
    refine S_callV (av := []) (pc := 1) (z := mX7_look) (ci := 6) dX7_readPiece_1 zX7_look lX7_readPiece_42 rfl (by first | rfl | assumption) rfl rfl (sX7_look hT hd ha ⟨_, rfl, ?_⟩)
    refine G_bipush (pc := 4) (v := nI 34) dX7_readPiece_4 (by decide) ?_
    refine N_icmp_ne (pc := 6) (tgt := 24) dX7_readPiece_6 (by decide) (by omega) (fun c6 => absurd c6 (by omega)) (fun c6 => ?_)
    refine G_aload_n (pc := 9) dX7_readPiece_9 rfl rfl ?_
    refine G_dup (pc := 10) dX7_readPiece_10 rfl ?_
    refine S_getI (pc := 11) dX7_readPiece_11 fX7_27 rfl (by first | rfl | assumption) rfl ?_
    rw [td_at]
    refine G_iconst (pc := 14) (v := nI 1) dX7_readPiece_14 (by decide) ?_
    refine N_iadd (pc := 15) dX7_readPiece_15 ?_
    refine S_putI (pc := 16) dX7_readPiece_16 fX7_27 (by decide) rfl (by first | rfl | assumption) rfl ?_
    refine G_aload_n (pc := 19) dX7_readPiece_19 rfl rfl ?_
    rw [upX_u]
    refine S_callV (av := []) (pc := 20) (z := mX7_readTyped) (ci := 6) dX7_readPiece_20 zX7_readTyped lX7_readPiece_62 rfl (by first | rfl | assumption) rfl rfl (sX7_readTyped hT hd hp hl hlt (fun b e1 => ⟨_, rfl, ?_⟩) (fun p b S1 e1 w1 w2 => ⟨_, rfl, ?_⟩))
    · skip
      refine S_zret (pc := 23) dX7_readPiece_23 rfl (bI_nar _) ?_
      exact h0 b e1
    refine S_zret (pc := 23) dX7_readPiece_23 rfl (bI_nar _) ?_
    exact h1 p b S1 e1 w1 w2
  · have e : rd1 T a = rdC T (sk T a) := if_neg q
    rw [e] at h0 h1
    refine G_aload_n (pc := 0) dX7_readPiece_0 rfl rfl ?_
    refine S_callV (av := []) (pc := 1) (z := mX7_look) (ci := 6) dX7_readPiece_1 zX7_look lX7_readPiece_42 rfl (by first | rfl | assumption) rfl rfl (sX7_look hT hd ha ⟨_, rfl, ?_⟩)
    refine G_bipush (pc := 4) (v := nI 34) dX7_readPiece_4 (by decide) ?_
    refine N_icmp_ne (pc := 6) (tgt := 24) dX7_readPiece_6 (by decide) (by omega) (fun c6 => ?_) (fun c6 => absurd c6 (by omega))
    refine G_aload_n (pc := 24) dX7_readPiece_24 rfl rfl ?_
    refine S_callV (av := []) (pc := 25) (z := mX7_readCut) (ci := 6) dX7_readPiece_25 zX7_readCut lX7_readPiece_65 rfl (by first | rfl | assumption) rfl rfl (sX7_readCut hT hd hp hl hs (fun b e1 => ⟨_, rfl, ?_⟩) (fun p b S1 e1 w1 w2 => ⟨_, rfl, ?_⟩))
    · skip
      refine S_zret (pc := 28) dX7_readPiece_28 rfl (bI_nar _) ?_
      exact h0 b e1
    refine S_zret (pc := 28) dX7_readPiece_28 rfl (bI_nar _) ?_
    exact h1 p b S1 e1 w1 w2
set_option maxRecDepth 100000 in
set_option maxHeartbeats 4000000 in
theorem sX7_canGoOn {ps : List Nat} {p : Nat} (hp : PgIs S 284 (ps ++ [p])) (hpc : ∀ q ∈ ps ++ [p], isPc q) (h : Q (some (aI (bI (decide (¬ (ps.length = 2 ∨ (ps.length = 1 ∧ p < 16777216))))))) (mk S)) : CT sc mX7_canGoOn [aR 283] (mk S) Q := by
  refine S_of (by decide) rfl ?_
  show G sc mX7_canGoOn 0 [some (aR 283), none] [] (mk S) Q
  have hl3 := hp.2.1
  have e : (ps ++ [p]).length = ps.length + 1 := by simp
  have e2 : (ps ++ [p]).getD ((ps ++ [p]).length - 1) 0 = p := by
    rw [e]
    simp
  rw [e] at hl3
  by_cases q0 : ps.length = 0
  · rw [decide_eq_true (by omega)] at h
    refine G_aload_n (pc := 0) dX7_canGoOn_0 rfl rfl ?_
    refine S_getR (pc := 1) (b := 284) dX7_canGoOn_1 fX7_12 rfl rfl (by first | rfl | assumption) rfl rfl ?_
    refine S_callV (av := []) (pc := 4) (z := mX3_pieceCount) (ci := 2) dX7_canGoOn_4 zX3_pieceCount lX7_canGoOn_49 rfl (by first | rfl | assumption) rfl rfl (sX3_pieceCount pgk284 hp ⟨_, rfl, ?_⟩)
    rw [e]
    refine G_istore_n (pc := 7) dX7_canGoOn_7 rfl (by decide) rfl ?_
    refine G_iload_n (pc := 8) dX7_canGoOn_8 rfl rfl ?_
    refine G_iconst (pc := 9) (v := nI 1) dX7_canGoOn_9 (by decide) ?_
    refine N_icmp_eq (pc := 10) (tgt := 28) dX7_canGoOn_10 (by decide) (by omega) (fun c10 => ?_) (fun c10 => absurd c10 (by omega))
    refine G_iconst (pc := 28) (v := nI 1) dX7_canGoOn_28 (by decide) ?_
    refine G_goto (pc := 29) (tgt := 33) dX7_canGoOn_29 (by decide) ?_
    refine S_zret (pc := 33) dX7_canGoOn_33 rfl rfl ?_
    exact h
  by_cases q1 : ps.length = 1
  · by_cases q2 : p < 16777216
    · rw [decide_eq_false (by omega)] at h
      refine G_aload_n (pc := 0) dX7_canGoOn_0 rfl rfl ?_
      refine S_getR (pc := 1) (b := 284) dX7_canGoOn_1 fX7_12 rfl rfl (by first | rfl | assumption) rfl rfl ?_
      refine S_callV (av := []) (pc := 4) (z := mX3_pieceCount) (ci := 2) dX7_canGoOn_4 zX3_pieceCount lX7_canGoOn_49 rfl (by first | rfl | assumption) rfl rfl (sX3_pieceCount pgk284 hp ⟨_, rfl, ?_⟩)
      rw [e]
      refine G_istore_n (pc := 7) dX7_canGoOn_7 rfl (by decide) rfl ?_
      refine G_iload_n (pc := 8) dX7_canGoOn_8 rfl rfl ?_
      refine G_iconst (pc := 9) (v := nI 1) dX7_canGoOn_9 (by decide) ?_
      refine N_icmp_eq (pc := 10) (tgt := 28) dX7_canGoOn_10 (by decide) (by omega) (fun c10 => absurd c10 (by omega)) (fun c10 => ?_)
      refine G_iload_n (pc := 13) dX7_canGoOn_13 rfl rfl ?_
      refine G_iconst (pc := 14) (v := nI 2) dX7_canGoOn_14 (by decide) ?_
      refine N_icmp_ne (pc := 15) (tgt := 32) dX7_canGoOn_15 (by decide) (by omega) (fun c15 => absurd c15 (by omega)) (fun c15 => ?_)
      refine G_aload_n (pc := 18) dX7_canGoOn_18 rfl rfl ?_
      refine S_getR (pc := 19) (b := 284) dX7_canGoOn_19 fX7_12 rfl rfl (by first | rfl | assumption) rfl rfl ?_
      refine S_callV (av := []) (pc := 22) (z := mX3_endsWithCut) (ci := 2) dX7_canGoOn_22 zX3_endsWithCut lX7_canGoOn_52 rfl (by first | rfl | assumption) rfl rfl (sX3_endsWithCut pgk284 hp (by simp) hpc ⟨_, rfl, ?_⟩)
      rw [e2, decide_eq_true q2]
      refine B_if_ne (pc := 25) (tgt := 32) dX7_canGoOn_25 (by decide) (fun c25 => ?_) (fun c25 => absurd c25 (by decide))
      refine G_iconst (pc := 32) (v := nI 0) dX7_canGoOn_32 (by decide) ?_
      refine S_zret (pc := 33) dX7_canGoOn_33 rfl rfl ?_
      exact h
    · rw [decide_eq_true (by omega)] at h
      refine G_aload_n (pc := 0) dX7_canGoOn_0 rfl rfl ?_
      refine S_getR (pc := 1) (b := 284) dX7_canGoOn_1 fX7_12 rfl rfl (by first | rfl | assumption) rfl rfl ?_
      refine S_callV (av := []) (pc := 4) (z := mX3_pieceCount) (ci := 2) dX7_canGoOn_4 zX3_pieceCount lX7_canGoOn_49 rfl (by first | rfl | assumption) rfl rfl (sX3_pieceCount pgk284 hp ⟨_, rfl, ?_⟩)
      rw [e]
      refine G_istore_n (pc := 7) dX7_canGoOn_7 rfl (by decide) rfl ?_
      refine G_iload_n (pc := 8) dX7_canGoOn_8 rfl rfl ?_
      refine G_iconst (pc := 9) (v := nI 1) dX7_canGoOn_9 (by decide) ?_
      refine N_icmp_eq (pc := 10) (tgt := 28) dX7_canGoOn_10 (by decide) (by omega) (fun c10 => absurd c10 (by omega)) (fun c10 => ?_)
      refine G_iload_n (pc := 13) dX7_canGoOn_13 rfl rfl ?_
      refine G_iconst (pc := 14) (v := nI 2) dX7_canGoOn_14 (by decide) ?_
      refine N_icmp_ne (pc := 15) (tgt := 32) dX7_canGoOn_15 (by decide) (by omega) (fun c15 => absurd c15 (by omega)) (fun c15 => ?_)
      refine G_aload_n (pc := 18) dX7_canGoOn_18 rfl rfl ?_
      refine S_getR (pc := 19) (b := 284) dX7_canGoOn_19 fX7_12 rfl rfl (by first | rfl | assumption) rfl rfl ?_
      refine S_callV (av := []) (pc := 22) (z := mX3_endsWithCut) (ci := 2) dX7_canGoOn_22 zX3_endsWithCut lX7_canGoOn_52 rfl (by first | rfl | assumption) rfl rfl (sX3_endsWithCut pgk284 hp (by simp) hpc ⟨_, rfl, ?_⟩)
      rw [e2, decide_eq_false q2]
      refine B_if_ne (pc := 25) (tgt := 32) dX7_canGoOn_25 (by decide) (fun c25 => absurd c25 (by decide)) (fun c25 => ?_)
      refine G_iconst (pc := 28) (v := nI 1) dX7_canGoOn_28 (by decide) ?_
      refine G_goto (pc := 29) (tgt := 33) dX7_canGoOn_29 (by decide) ?_
      refine S_zret (pc := 33) dX7_canGoOn_33 rfl rfl ?_
      exact h
  · rw [decide_eq_false (by omega)] at h
    refine G_aload_n (pc := 0) dX7_canGoOn_0 rfl rfl ?_
    refine S_getR (pc := 1) (b := 284) dX7_canGoOn_1 fX7_12 rfl rfl (by first | rfl | assumption) rfl rfl ?_
    refine S_callV (av := []) (pc := 4) (z := mX3_pieceCount) (ci := 2) dX7_canGoOn_4 zX3_pieceCount lX7_canGoOn_49 rfl (by first | rfl | assumption) rfl rfl (sX3_pieceCount pgk284 hp ⟨_, rfl, ?_⟩)
    rw [e]
    refine G_istore_n (pc := 7) dX7_canGoOn_7 rfl (by decide) rfl ?_
    refine G_iload_n (pc := 8) dX7_canGoOn_8 rfl rfl ?_
    refine G_iconst (pc := 9) (v := nI 1) dX7_canGoOn_9 (by decide) ?_
    refine N_icmp_eq (pc := 10) (tgt := 28) dX7_canGoOn_10 (by decide) (by omega) (fun c10 => absurd c10 (by omega)) (fun c10 => ?_)
    refine G_iload_n (pc := 13) dX7_canGoOn_13 rfl rfl ?_
    refine G_iconst (pc := 14) (v := nI 2) dX7_canGoOn_14 (by decide) ?_
    refine N_icmp_ne (pc := 15) (tgt := 32) dX7_canGoOn_15 (by decide) (by omega) (fun c15 => ?_) (fun c15 => absurd c15 (by omega))
    refine G_iconst (pc := 32) (v := nI 0) dX7_canGoOn_32 (by decide) ?_
    refine S_zret (pc := 33) dX7_canGoOn_33 rfl rfl ?_
    exact h
theorem rdG_le (hT : TpT S0 T) : ∀ (d k a : Nat) (ps : List Nat), a ≤ T.length → (rdG T d k a ps).2 ≤ T.length
  | 0, k, a, ps, h => h
  | d + 1, k, a, ps, h => by
    have ok := rd1_ok hT h
    rcases hr : rd1 T a with ⟨_ | p, b⟩
    · rw [rdG_0 hr]
      rw [hr] at ok
      exact ok.2
    · rw [hr] at ok
      have okb : b ≤ T.length := ok.2
      have hs := sk_le okb
      by_cases q0 : lk T b = 0
      · rw [rdG_1 hr q0]; exact hs
      · by_cases q1 : ¬ lk T b = 43 ∨ k = 2 ∨ (k = 1 ∧ p < 16777216)
        · rw [rdG_2 hr q0 q1]; exact hs
        · rw [rdG_3 hr q0 q1]
          have := lk_sk2 hT (a := b) q0
          exact rdG_le hT d (k + 1) (sk T b + 1) _ (by omega)
abbrev trX (a j : Nat) : Prop := (a = 283 ∧ j = 2) ∨ (a = 284 ∧ j = 1) ∨ (a = 286 ∧ j = 1)
abbrev trA (a : Nat) : Prop := a = 285 ∨ a = 287
theorem tr_u {v : Int32} : Fr trX trA S (upX S 283 2 v) := Fr.upX (Or.inl ⟨rfl, rfl⟩)
theorem tr_p {S' : ST} (h : Fr (pgX 284) (pgA 284) S S') : Fr trX trA S S' := h.mono (fun a j q => Or.inr (Or.inl q)) (fun a q => Or.inl q)
set_option maxRecDepth 100000 in
set_option maxHeartbeats 4000000 in
theorem tread_lp (hT : TpT S0 T) :
    ∀ (d k a : Nat) (ps : List Nat) (S : ST) (o3 : Option AV), k + d = 3 → ps.length = k → (∀ q ∈ ps, isPc q) → a ≤ T.length → TdT S T → PgIs S 284 ps →
      (∀ qs b S', rdG T d k a ps = (some qs, b) → Fr trX trA S S' → PgIs S' 284 qs → Q (some (aI (-1))) (mk S')) →
      (∀ b S', rdG T d k a ps = (none, b) → Fr trX trA S S' → Q (some (aI (nI b))) (mk S')) →
      G sc mX7_read 22 [some (aR 283), some (aR 1), some (aI (nI k)), o3] [] (mk (upX S 283 2 (nI a))) Q := by
  intro d
  induction d with
  | zero =>
    intro k a ps S o3 hk hps hpc ha hd hp h1 h0
    refine G_iload_n (pc := 22) dX7_read_22 rfl rfl ?_
    refine G_iconst (pc := 23) (v := nI 3) dX7_read_23 (by decide) ?_
    refine N_icmp_ge (pc := 24) (tgt := 84) dX7_read_24 (by decide) (by omega) (fun c24 => ?_) (fun c24 => absurd c24 (by omega))
    refine G_aload_n (pc := 84) dX7_read_84 rfl rfl ?_
    refine S_getI (pc := 85) dX7_read_85 fX7_27 rfl (by first | rfl | assumption) rfl ?_
    rw [td_at]
    refine S_iret (pc := 88) dX7_read_88 rfl ?_
    exact h0 a _ rfl tr_u
  | succ d ih =>
    intro k a ps S o3 hk hps hpc ha hd hp h1 h0
    have ok := rd1_ok hT ha
    refine G_iload_n (pc := 22) dX7_read_22 rfl rfl ?_
    refine G_iconst (pc := 23) (v := nI 3) dX7_read_23 (by decide) ?_
    refine N_icmp_ge (pc := 24) (tgt := 84) dX7_read_24 (by decide) (by omega) (fun c24 => absurd c24 (by omega)) (fun c24 => ?_)
    refine G_aload_n (pc := 27) dX7_read_27 rfl rfl ?_
    refine S_callV (av := []) (pc := 28) (z := mX7_readPiece) (ci := 6) dX7_read_28 zX7_readPiece lX7_read_38 rfl (by first | rfl | assumption) rfl rfl (sX7_readPiece hT hd hp (by omega) ha (fun b e1 => ⟨_, rfl, ?_⟩) (fun p b S1 e1 w1 w2 => ⟨_, rfl, ?_⟩))
    · skip
      refine B_if_ne (pc := 31) (tgt := 39) dX7_read_31 (by decide) (fun c31 => absurd c31 (by decide)) (fun c31 => ?_)
      refine G_aload_n (pc := 34) dX7_read_34 rfl rfl ?_
      refine S_getI (pc := 35) dX7_read_35 fX7_27 rfl (by first | rfl | assumption) rfl ?_
      rw [td_at]
      refine S_iret (pc := 38) dX7_read_38 rfl ?_
      exact h0 b _ (rdG_0 e1) tr_u
    rw [e1] at ok
    have okp := ok.1 p rfl
    have okb : b ≤ T.length := ok.2
    have hat : S1.1 283 2 = nI b := (w1.1 283 2 (by show ¬ (_ ∧ _); omega)).trans td_at
    have eS : mk S1 = mk (upX S1 283 2 (nI b)) := by rw [upX_id hat]
    have f1 : Fr trX trA S S1 := tr_u.tr (tr_p w1)
    have hd1 := hd.up.fr w1
    have hb := (lk_b hT b).1
    have hpc2 : ∀ q ∈ ps ++ [p], isPc q := fun q hq => by
      rcases List.mem_append.mp hq with z | z
      · exact hpc q z
      · rw [List.mem_singleton.mp z]; exact okp
    have el : (ps ++ [p]).length = k + 1 := by simp [hps]
    rw [eS]
    by_cases q0 : lk T b = 0
    · skip
      refine B_if_ne (pc := 31) (tgt := 39) dX7_read_31 (by decide) (fun c31 => ?_) (fun c31 => absurd c31 (by decide))
      refine G_aload_n (pc := 39) dX7_read_39 rfl rfl ?_
      refine S_callV (av := []) (pc := 40) (z := mX7_look) (ci := 6) dX7_read_40 zX7_look lX7_read_42 rfl (by first | rfl | assumption) rfl rfl (sX7_look hT hd1 okb ⟨_, rfl, ?_⟩)
      refine G_istore_n (pc := 43) dX7_read_43 rfl (by decide) rfl ?_
      refine G_iload_n (pc := 44) dX7_read_44 rfl rfl ?_
      refine N_if_ne (pc := 45) (tgt := 50) dX7_read_45 (by decide) (by omega) (fun c45 => absurd c45 (by omega)) (fun c45 => ?_)
      refine G_iconst (pc := 48) (v := (-1)) dX7_read_48 (by decide) ?_
      refine S_iret (pc := 49) dX7_read_49 rfl ?_
      exact h1 _ _ _ (rdG_1 e1 q0) (f1.tr tr_u) w2.up283
    by_cases q1 : lk T b = 43
    · by_cases q2 : ps.length = 2 ∨ (ps.length = 1 ∧ p < 16777216)
      · have e2 := rdG_2 (d := d) (ps := ps) e1 q0 (Or.inr (show k = 2 ∨ (k = 1 ∧ p < 16777216) by omega))
        refine B_if_ne (pc := 31) (tgt := 39) dX7_read_31 (by decide) (fun c31 => ?_) (fun c31 => absurd c31 (by decide))
        refine G_aload_n (pc := 39) dX7_read_39 rfl rfl ?_
        refine S_callV (av := []) (pc := 40) (z := mX7_look) (ci := 6) dX7_read_40 zX7_look lX7_read_42 rfl (by first | rfl | assumption) rfl rfl (sX7_look hT hd1 okb ⟨_, rfl, ?_⟩)
        refine G_istore_n (pc := 43) dX7_read_43 rfl (by decide) rfl ?_
        refine G_iload_n (pc := 44) dX7_read_44 rfl rfl ?_
        refine N_if_ne (pc := 45) (tgt := 50) dX7_read_45 (by decide) (by omega) (fun c45 => ?_) (fun c45 => absurd c45 (by omega))
        refine G_iload_n (pc := 50) dX7_read_50 rfl rfl ?_
        refine G_bipush (pc := 51) (v := nI 43) dX7_read_51 (by decide) ?_
        refine N_icmp_ne (pc := 53) (tgt := 63) dX7_read_53 (by decide) (by omega) (fun c53 => absurd c53 (by omega)) (fun c53 => ?_)
        refine G_aload_n (pc := 56) dX7_read_56 rfl rfl ?_
        refine S_callV (av := []) (pc := 57) (z := mX7_canGoOn) (ci := 6) dX7_read_57 zX7_canGoOn lX7_read_46 rfl (by first | rfl | assumption) rfl rfl (sX7_canGoOn w2.up283 hpc2 ⟨_, rfl, ?_⟩)
        rw [decide_eq_false (fun z => z q2)]
        refine B_if_ne (pc := 60) (tgt := 68) dX7_read_60 (by decide) (fun c60 => absurd c60 (by decide)) (fun c60 => ?_)
        refine G_aload_n (pc := 63) dX7_read_63 rfl rfl ?_
        refine S_getI (pc := 64) dX7_read_64 fX7_27 rfl (by first | rfl | assumption) rfl ?_
        rw [td_at]
        refine S_iret (pc := 67) dX7_read_67 rfl ?_
        exact h0 _ _ e2 (f1.tr tr_u)
      · have e2 := rdG_3 (d := d) (k := k) (ps := ps) e1 q0 (by omega)
        rw [e2] at h1 h0
        have hlt := lk_sk2 hT (a := b) (by omega)
        refine B_if_ne (pc := 31) (tgt := 39) dX7_read_31 (by decide) (fun c31 => ?_) (fun c31 => absurd c31 (by decide))
        refine G_aload_n (pc := 39) dX7_read_39 rfl rfl ?_
        refine S_callV (av := []) (pc := 40) (z := mX7_look) (ci := 6) dX7_read_40 zX7_look lX7_read_42 rfl (by first | rfl | assumption) rfl rfl (sX7_look hT hd1 okb ⟨_, rfl, ?_⟩)
        refine G_istore_n (pc := 43) dX7_read_43 rfl (by decide) rfl ?_
        refine G_iload_n (pc := 44) dX7_read_44 rfl rfl ?_
        refine N_if_ne (pc := 45) (tgt := 50) dX7_read_45 (by decide) (by omega) (fun c45 => ?_) (fun c45 => absurd c45 (by omega))
        refine G_iload_n (pc := 50) dX7_read_50 rfl rfl ?_
        refine G_bipush (pc := 51) (v := nI 43) dX7_read_51 (by decide) ?_
        refine N_icmp_ne (pc := 53) (tgt := 63) dX7_read_53 (by decide) (by omega) (fun c53 => absurd c53 (by omega)) (fun c53 => ?_)
        refine G_aload_n (pc := 56) dX7_read_56 rfl rfl ?_
        refine S_callV (av := []) (pc := 57) (z := mX7_canGoOn) (ci := 6) dX7_read_57 zX7_canGoOn lX7_read_46 rfl (by first | rfl | assumption) rfl rfl (sX7_canGoOn w2.up283 hpc2 ⟨_, rfl, ?_⟩)
        rw [decide_eq_true q2]
        refine B_if_ne (pc := 60) (tgt := 68) dX7_read_60 (by decide) (fun c60 => ?_) (fun c60 => absurd c60 (by decide))
        refine G_aload_n (pc := 68) dX7_read_68 rfl rfl ?_
        refine G_dup (pc := 69) dX7_read_69 rfl ?_
        refine S_getI (pc := 70) dX7_read_70 fX7_27 rfl (by first | rfl | assumption) rfl ?_
        rw [td_at]
        refine G_iconst (pc := 73) (v := nI 1) dX7_read_73 (by decide) ?_
        refine N_iadd (pc := 74) dX7_read_74 ?_
        refine S_putI (pc := 75) dX7_read_75 fX7_27 (by decide) rfl (by first | rfl | assumption) rfl ?_
        refine N_iinc (pc := 78) dX7_read_78 rfl (by decide) rfl ?_
        refine G_goto (pc := 81) (tgt := 22) dX7_read_81 (by decide) ?_
        rw [upX_u]
        exact ih (k + 1) (sk T b + 1) (ps ++ [p]) S1 _ (by omega) el hpc2 (by omega) hd1 w2 (fun qs c S' g1 g2 g3 => h1 qs c S' g1 (f1.tr g2) g3) (fun c S' g1 g2 => h0 c S' g1 (f1.tr g2))
    · have e2 := rdG_2 (d := d) (k := k) (ps := ps) e1 q0 (Or.inl q1)
      refine B_if_ne (pc := 31) (tgt := 39) dX7_read_31 (by decide) (fun c31 => ?_) (fun c31 => absurd c31 (by decide))
      refine G_aload_n (pc := 39) dX7_read_39 rfl rfl ?_
      refine S_callV (av := []) (pc := 40) (z := mX7_look) (ci := 6) dX7_read_40 zX7_look lX7_read_42 rfl (by first | rfl | assumption) rfl rfl (sX7_look hT hd1 okb ⟨_, rfl, ?_⟩)
      refine G_istore_n (pc := 43) dX7_read_43 rfl (by decide) rfl ?_
      refine G_iload_n (pc := 44) dX7_read_44 rfl rfl ?_
      refine N_if_ne (pc := 45) (tgt := 50) dX7_read_45 (by decide) (by omega) (fun c45 => ?_) (fun c45 => absurd c45 (by omega))
      refine G_iload_n (pc := 50) dX7_read_50 rfl rfl ?_
      refine G_bipush (pc := 51) (v := nI 43) dX7_read_51 (by decide) ?_
      refine N_icmp_ne (pc := 53) (tgt := 63) dX7_read_53 (by decide) (by omega) (fun c53 => ?_) (fun c53 => absurd c53 (by omega))
      refine G_aload_n (pc := 63) dX7_read_63 rfl rfl ?_
      refine S_getI (pc := 64) dX7_read_64 fX7_27 rfl (by first | rfl | assumption) rfl ?_
      rw [td_at]
      refine S_iret (pc := 67) dX7_read_67 rfl ?_
      exact h0 _ _ e2 (f1.tr tr_u)
theorem RwK_286 : RwK 286 60 := ⟨rfl, rfl, rfl⟩
set_option maxRecDepth 100000 in
set_option maxHeartbeats 4000000 in
theorem sX7_read (hT : TpT S0 T) {l : List Int32} (hl : RwIs S 1 l) (hby : LBy l) (e1 : l.length = T.length) (e2 : ∀ a, a < T.length → l.getD a 0 = nI (T.getD a 0)) (h1 : ∀ qs b S', rdA T = (some qs, b) → Fr trX trA S S' → PgIs S' 284 qs → Q (some (aI (-1))) (mk S'))
    (h0 : ∀ b S', rdA T = (none, b) → Fr trX trA S S' → Q (some (aI (nI b))) (mk S')) : CT sc mX7_read [aR 283, aR 1] (mk S) Q := by
  refine S_of (by decide) rfl ?_
  show G sc mX7_read 0 [some (aR 283), some (aR 1), none, none] [] (mk S) Q
  have h60 := hT.2.1
  refine G_aload_n (pc := 0) dX7_read_0 rfl rfl ?_
  refine S_getR (pc := 1) (b := 286) dX7_read_1 fX7_23 rfl rfl (by first | rfl | assumption) rfl rfl ?_
  refine G_aload_n (pc := 4) dX7_read_4 rfl rfl ?_
  refine S_callV (av := [_]) (pc := 5) (z := mX4_copyOf) (ci := 3) dX7_read_5 zX4_copyOf lX7_read_31 rfl (by first | rfl | assumption) rfl rfl (sX4_copyOf RwK_286 RwK_p (by omega) (by omega) (by omega) hby hl (fun S1 g1 g2 => ⟨_, rfl, ?_⟩))
  refine G_aload_n (pc := 8) dX7_read_8 rfl rfl ?_
  refine G_iconst (pc := 9) (v := nI 0) dX7_read_9 (by decide) ?_
  refine S_putI (pc := 10) dX7_read_10 fX7_27 (by decide) rfl (by first | rfl | assumption) rfl ?_
  refine G_aload_n (pc := 13) dX7_read_13 rfl rfl ?_
  refine S_getR (pc := 14) (b := 284) dX7_read_14 fX7_12 rfl rfl (by first | rfl | assumption) rfl rfl ?_
  refine S_callV (av := []) (pc := 17) (z := mX3_clear) (ci := 2) dX7_read_17 zX3_clear lX7_read_35 rfl (by first | rfl | assumption) rfl rfl (sX3_clear pgk284 ⟨_, rfl, ?_⟩)
  refine G_iconst (pc := 20) (v := nI 0) dX7_read_20 (by decide) ?_
  refine G_istore_n (pc := 21) dX7_read_21 rfl (by decide) rfl ?_
  have t1 : TdT S1 T := ⟨by have := g2.1; rw [e1] at this; exact this, fun a ha => (g2.2 a (by omega)).trans (e2 a ha)⟩
  have t2 : TdT (upX S1 284 1 (nI 0)) T := ⟨(upX_n (by omega)).trans t1.1, t1.2⟩
  have f1 : Fr trX trA S (upX S1 284 1 (nI 0)) := (g1.mono (fun a j q => Or.inr (Or.inr q)) (fun a q => Or.inr q)).tr (Fr.upX (Or.inr (Or.inl ⟨rfl, rfl⟩)))
  have eU : upX (upX S1 283 2 (nI 0)) 284 1 (nI 0) = upX (upX S1 284 1 (nI 0)) 283 2 (nI 0) := by
    unfold upX
    refine Prod.ext ?_ rfl
    funext x y
    dsimp only
    by_cases c1 : x = 284 ∧ y = 1
    · rw [if_pos c1, if_neg (by omega), if_pos c1]
    · rw [if_neg c1]
      by_cases c2 : x = 283 ∧ y = 2
      · rw [if_pos c2, if_pos c2]
      · rw [if_neg c2, if_neg c2, if_neg c1]
  rw [eU]
  exact tread_lp hT 3 0 0 [] _ _ (by omega) rfl (fun q hq => by cases hq) (by omega) t2 PgIs.nil (fun qs b S' w1 w2 w3 => h1 qs b S' w1 (f1.tr w2) w3) (fun b S' w1 w2 => h0 b S' w1 (f1.tr w2))
abbrev teX (a j : Nat) : Prop := trX a j ∨ (a = 1 ∧ j = 1)
set_option maxRecDepth 100000 in
set_option maxHeartbeats 4000000 in
theorem sX9_text (hT : TpT S0 T) {l : List Int32} {k : Nat} (hl : RwIs S 1 l) (hby : LBy l) (e1 : l.length = T.length) (e2 : ∀ a, a < T.length → l.getD a 0 = nI (T.getD a 0)) (hk : k ≤ 4) (hn : S.1 0 11 = nI k)
    (hno : ∀ b, rdA T = (none, b) → ∀ S', Fr teX trA S S' → S'.1 1 1 = nI 0 → Q (some (aI (-20 - nI b))) (mk S'))
    (hfull : ∀ qs b, rdA T = (some qs, b) → k = 4 → ∀ S', Fr teX trA S S' → S'.1 1 1 = nI 0 → Q (some (aI (-3))) (mk S'))
    (h : ∀ qs b, rdA T = (some qs, b) → k < 4 → ∀ S', Fr (fun a j => teX a j ∨ kpX k a j) (fun a => trA a ∨ kpA k a) S S' → S'.1 1 1 = nI 0 → S'.1 0 11 = nI (k + 1) → PgIs S' (373 + 2 * k) qs → Q (some (aI (nI k))) (mk S')) : CT sc mX9_text [aR 0] (mk S) Q := by
  refine S_of (by decide) rfl ?_
  show G sc mX9_text 0 [some (aR 0), none] [] (mk S) Q
  have te : ∀ S1, Fr trX trA S S1 → Fr teX trA S (upX S1 1 1 (nI 0)) := fun S1 g => (g.mono (fun a j q => Or.inl q) (fun a q => q)).tr (Fr.upX (Or.inr ⟨rfl, rfl⟩))
  refine G_aload_n (pc := 0) dX9_text_0 rfl rfl ?_
  refine S_getR (pc := 1) (b := 283) dX9_text_1 fX9_71 rfl rfl (by first | rfl | assumption) rfl rfl ?_
  refine G_aload_n (pc := 4) dX9_text_4 rfl rfl ?_
  refine S_getR (pc := 5) (b := 1) dX9_text_5 fX9_14 rfl rfl (by first | rfl | assumption) rfl rfl ?_
  refine S_callV (av := [_]) (pc := 8) (z := mX7_read) (ci := 6) dX9_text_8 zX7_read lX9_text_210 rfl (by first | rfl | assumption) rfl rfl (sX7_read hT hl hby e1 e2 (fun qs b S1 w1 w2 w3 => ⟨_, rfl, ?_⟩) (fun b S1 w1 w2 => ⟨_, rfl, ?_⟩))
  · have f1 := te S1 w2
    refine G_istore_n (pc := 11) dX9_text_11 rfl (by decide) rfl ?_
    refine G_aload_n (pc := 12) dX9_text_12 rfl rfl ?_
    refine S_getR (pc := 13) (b := 1) dX9_text_13 fX9_14 rfl rfl (by first | rfl | assumption) rfl rfl ?_
    refine S_callV (av := []) (pc := 16) (z := mX4_clear) (ci := 3) dX9_text_16 zX4_clear lX9_text_102 rfl (by first | rfl | assumption) rfl rfl (sX4_clear RwK_p ⟨_, rfl, ?_⟩)
    refine G_iload_n (pc := 19) dX9_text_19 rfl rfl ?_
    refine T_if_lt (pc := 20) (tgt := 30) dX9_text_20 (by decide) (fun c20 => ?_) (fun c20 => absurd c20 (by decide))
    refine G_aload_n (pc := 30) dX9_text_30 rfl rfl ?_
    refine G_aload_n (pc := 31) dX9_text_31 rfl rfl ?_
    refine S_getR (pc := 32) (b := 283) dX9_text_32 fX9_71 rfl rfl (by first | rfl | assumption) rfl rfl ?_
    refine S_getR (pc := 35) (b := 284) dX9_text_35 fX9_213 rfl rfl (by first | rfl | assumption) rfl rfl ?_
    refine S_callV (av := [_]) (pc := 38) (z := mX9_keepProgram) (ci := 8) dX9_text_38 zX9_keepProgram lX9_text_206 rfl (by first | rfl | assumption) rfl rfl (sX9_keepProgram pgk284 (by omega) ⟨(upX_n (by omega)).trans w3.1, w3.2⟩ hk ((f1.1 0 11 (by show ¬ (_ ∨ _); omega)).trans hn) (fun q => ⟨_, rfl, ?_⟩) (fun q S2 g1 g2 g3 => ⟨_, rfl, ?_⟩))
    · skip
      refine S_iret (pc := 41) dX9_text_41 rfl ?_
      exact hfull qs b w1 q _ f1 upX_s
    refine S_iret (pc := 41) dX9_text_41 rfl ?_
    exact h qs b w1 q S2 ((f1.mono (fun a j z => Or.inl z) (fun a z => Or.inl z)).tr (g1.mono (fun a j z => Or.inr z) (fun a z => Or.inr z))) ((g1.1 1 1 (by show ¬ (_ ∨ _); omega)).trans upX_s) g2 g3
  have hb := rdG_le hT 3 0 0 [] (Nat.zero_le _)
  rw [show rdG T 3 0 0 [] = (none, b) from w1] at hb
  have hb : b ≤ T.length := hb
  have h60 := hT.2.1
  refine G_istore_n (pc := 11) dX9_text_11 rfl (by decide) rfl ?_
  refine G_aload_n (pc := 12) dX9_text_12 rfl rfl ?_
  refine S_getR (pc := 13) (b := 1) dX9_text_13 fX9_14 rfl rfl (by first | rfl | assumption) rfl rfl ?_
  refine S_callV (av := []) (pc := 16) (z := mX4_clear) (ci := 3) dX9_text_16 zX4_clear lX9_text_102 rfl (by first | rfl | assumption) rfl rfl (sX4_clear RwK_p ⟨_, rfl, ?_⟩)
  refine G_iload_n (pc := 19) dX9_text_19 rfl rfl ?_
  refine N_if_lt (pc := 20) (tgt := 30) dX9_text_20 (by decide) (by omega) ?_
  refine G_bipush (pc := 23) (v := (-20)) dX9_text_23 (by decide) ?_
  refine G_iload_n (pc := 25) dX9_text_25 rfl rfl ?_
  refine G_isub (pc := 26) dX9_text_26 ?_
  refine G_goto (pc := 27) (tgt := 41) dX9_text_27 (by decide) ?_
  refine S_iret (pc := 41) dX9_text_41 rfl ?_
  exact hno b w1 _ (te S1 w2) upX_s
end C32
