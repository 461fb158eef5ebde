/-! the model: fittingOf -/
/-- how many programs begin with a piece that goes as far as L: of n pieces -/
def fT3 (S : ST) (ts : List Nat) (B : List (Nat × Nat)) (L m : Nat) : Nat := match leftG S L m ts 0 0 with
  | some x => (match typG S L m ts 0 0 with
    | some _ => cntB B x
    | none => 0)
  | none => 0
def fT (S : ST) (ts : List Nat) (B : List (Nat × Nat)) (n L : Nat) : Nat := if n = 1 then (if allG S L ts 0 = true then 1 else 0) else if n = 2 then (match leftG S L 0 ts 0 0 with
  | some x => cntB B x
  | none => 0) else fT3 S ts B L 1 + fT3 S ts B L 2 + fT3 S ts B L 3
def fitP (S : ST) (ts : List Nat) (F B : List (Nat × Nat)) (n : Nat) : Nat → Nat
  | 0 => 0
  | f + 1 => fitP S ts F B n f + fT S ts B n (F.getD f (0, 0)).2
theorem leftG_lt {S : ST} {n more : Nat} : ∀ (r : List Nat) (k acc L : Nat), (∀ t ∈ r, esN S t ≤ 12) → acc < 2 ^ (4 * k) → leftG S n more r k acc = some L → L < 2 ^ (4 * (k + r.length))
  | [], k, acc, L, _, h, e => by cases e; exact h
  | t :: r, k, acc, L, ht, h, e => by
    have h3 := ht t List.mem_cons_self
    unfold leftG at e
    split at e
    · have := leftG_lt r (k + 1) _ L (fun u hu => ht u (List.mem_cons_of_mem _ hu)) (p16_lt h (show esN S t - nib n k - more ≤ 15 by omega)) e
      rw [show k + (t :: r).length = k + 1 + r.length by simp; omega]
      exact this
    · cases e
theorem leftF_lt {S : ST} {ts : List Nat} {n more L : Nat} (ht : TsOk S ts) (h : leftG S n more ts 0 0 = some L) : L < 65536 := by
  have h1 := leftG_lt ts 0 0 L (fun t q => (ht.2 t q).2.2.2.2.2) (by decide) h
  have h2 := p16_4 (show 0 + ts.length ≤ 4 by have := ht.1; omega)
  omega
theorem fT_le {S : ST} {ts : List Nat} {B : List (Nat × Nat)} {n L : Nat} (h : B.length ≤ 4803) : fT S ts B n L ≤ 14409 := by
  have h3 : ∀ m, fT3 S ts B L m ≤ 4803 := fun m => by
    unfold fT3
    rcases leftG S L m ts 0 0 with _ | x
    · simp
    · have := cntB_le B x
      rcases typG S L m ts 0 0 with _ | w
      · simp
      · simp; omega
  unfold fT
  split
  · split <;> omega
  · split
    · rcases leftG S L 0 ts 0 0 with _ | x
      · simp
      · have := cntB_le B x
        simp; omega
    · have := h3 1; have := h3 2; have := h3 3; omega
theorem fitP_le {S : ST} {ts : List Nat} {F B : List (Nat × Nat)} {n : Nat} (h : B.length ≤ 4803) : ∀ f, fitP S ts F B n f ≤ 14409 * f
  | 0 => Nat.le_refl _
  | f + 1 => by
    have h1 := fitP_le (S := S) (ts := ts) (F := F) (n := n) h f
    have h2 := fT_le (S := S) (ts := ts) (n := n) (L := (F.getD f (0, 0)).2) h
    show fitP S ts F B n f + _ ≤ _
    omega
theorem fT_3 {S : ST} {ts : List Nat} {B : List (Nat × Nat)} {L : Nat} : fT S ts B 3 L = fT3 S ts B L 1 + fT3 S ts B L 2 + fT3 S ts B L 3 := by
  unfold fT
  rw [if_neg (by decide), if_neg (by decide)]
section M25
variable {sc : SC} {S : ST} {Q : Option AV → HM → Prop}
set_option maxRecDepth 100000 in
set_option maxHeartbeats 4000000 in
theorem fit3_lp {ts : List Nat} {F B : List (Nat × Nat)} {f n : Nat} (hts : TsOk S ts) (hsh : ShIs S ts) (hby : EnBy S ts) (hF : FrIs S F) (hC : BhC S B) (hf : f < F.length) (hFl : F.length ≤ 4803) (hL : (F.getD f (0, 0)).2 < 65536) (hBl : B.length ≤ 4803) :
    ∀ (d m acc : Nat) (o6 : Option AV), m + d = 4 → 1 ≤ m → (∀ (o6 : Option AV) (v : Nat), v = acc + (if 1 ≤ d then fT3 S ts B (F.getD f (0, 0)).2 m else 0) + (if 2 ≤ d then fT3 S ts B (F.getD f (0, 0)).2 (m + 1) else 0) + (if 3 ≤ d then fT3 S ts B (F.getD f (0, 0)).2 (m + 2) else 0) → G sc mX10_fittingOf 152 [some (aR 389), some (aI (nI n)), some (aL (lN v)), none, some (aI (nI f)), some (aI (nI 4)), o6] [] (mk S) Q) →
      G sc mX10_fittingOf 89 [some (aR 389), some (aI (nI n)), some (aL (lN acc)), none, some (aI (nI f)), some (aI (nI m)), o6] [] (mk S) Q := by
  intro d
  induction d with
  | zero =>
    intro m acc o6 hm _ h
    have e : m = 4 := by omega
    subst e
    refine G_iload (pc := 89) dX10_fittingOf_89 rfl ?_
    refine G_iconst (pc := 91) (v := nI 3) dX10_fittingOf_91 (by decide) ?_
    refine N_icmp_gt (pc := 92) (tgt := 152) dX10_fittingOf_92 (by decide) (by omega) (fun c92 => ?_) (fun c92 => absurd c92 (by omega))
    exact h _ acc (by simp)
  | succ d ih =>
    intro m acc o6 hm hm1 h
    have hq := (hF.2 f hf).2
    have K : ∀ (o6 : Option AV), G sc mX10_fittingOf 89 [some (aR 389), some (aI (nI n)), some (aL (lN (acc + fT3 S ts B (F.getD f (0, 0)).2 m))), none, some (aI (nI f)), some (aI (nI (m + 1))), o6] [] (mk S) Q := fun o6 => ih (m + 1) _ o6 (by omega) (by omega) (fun o6 v hv => h o6 v (by
      rw [hv, if_pos (show 1 ≤ d + 1 by omega)]
      by_cases h1 : 1 ≤ d
      · rw [if_pos h1, if_pos (show 2 ≤ d + 1 by omega)]
        by_cases h2 : 2 ≤ d
        · rw [if_pos h2, if_pos (show 3 ≤ d + 1 by omega), if_neg (show ¬ 3 ≤ d by omega)]
          rfl
        · rw [if_neg h2, if_neg (show ¬ 3 ≤ d + 1 by omega), if_neg (show ¬ 3 ≤ d by omega)]
      · rw [if_neg h1, if_neg (show ¬ 2 ≤ d + 1 by omega), if_neg (show ¬ 2 ≤ d by omega), if_neg (show ¬ 3 ≤ d + 1 by omega), if_neg (show ¬ 3 ≤ d by omega)]))
    rcases hx : leftG S (F.getD f (0, 0)).2 m ts 0 0 with _ | x
    · have e0 : fT3 S ts B (F.getD f (0, 0)).2 m = 0 := by unfold fT3; rw [hx]
      rw [e0] at K
      refine G_iload (pc := 89) dX10_fittingOf_89 rfl ?_
      refine G_iconst (pc := 91) (v := nI 3) dX10_fittingOf_91 (by decide) ?_
      refine N_icmp_gt (pc := 92) (tgt := 152) dX10_fittingOf_92 (by decide) (by omega) (fun c92 => absurd c92 (by omega)) (fun c92 => ?_)
      refine G_aload_n (pc := 95) dX10_fittingOf_95 rfl rfl ?_
      refine G_aload_n (pc := 96) dX10_fittingOf_96 rfl rfl ?_
      refine S_getR (pc := 97) (b := 400) dX10_fittingOf_97 fX10_40 rfl rfl (by first | rfl | assumption) rfl rfl ?_
      refine G_iload (pc := 100) dX10_fittingOf_100 rfl ?_
      refine N_iald (pc := 102) dX10_fittingOf_102 (by first | rfl | assumption) (by first | rfl | assumption) (by omega) ?_
      rw [hq]
      refine G_iload (pc := 103) dX10_fittingOf_103 rfl ?_
      refine S_callV (av := [_, _]) (pc := 105) (z := mX10_leftOf) (ci := 9) dX10_fittingOf_105 zX10_leftOf lX10_fittingOf_198 rfl (by first | rfl | assumption) rfl rfl (sX10_leftOf hL (by omega) hts hsh ⟨_, rfl, ?_⟩)
      rw [hx]
      refine G_istore (pc := 108) dX10_fittingOf_108 (by decide) rfl ?_
      refine G_lload_n (pc := 110) dX10_fittingOf_110 rfl rfl ?_
      refine G_iload (pc := 111) dX10_fittingOf_111 rfl ?_
      refine T_if_lt (pc := 113) (tgt := 132) dX10_fittingOf_113 (by decide) (fun c113 => ?_) (fun c113 => absurd c113 (by decide))
      refine G_lconst (pc := 132) (v := 0) dX10_fittingOf_132 (by decide) ?_
      refine G_goto (pc := 133) (tgt := 144) dX10_fittingOf_133 (by decide) ?_
      refine G_ladd (pc := 144) dX10_fittingOf_144 ?_
      rw [show lN acc + 0 = lN (acc + 0) from lN_add acc 0]
      refine G_lstore_n (pc := 145) dX10_fittingOf_145 rfl (by decide) rfl ?_
      refine N_iinc (pc := 146) dX10_fittingOf_146 rfl (by decide) rfl ?_
      refine G_goto (pc := 149) (tgt := 89) dX10_fittingOf_149 (by decide) ?_
      exact K _
    · have hx2 := leftF_lt hts hx
      have hcm := cntB_le B x
      rcases hy : typG S (F.getD f (0, 0)).2 m ts 0 0 with _ | w
      · have e0 : fT3 S ts B (F.getD f (0, 0)).2 m = 0 := by unfold fT3; rw [hx, hy]
        rw [e0] at K
        refine G_iload (pc := 89) dX10_fittingOf_89 rfl ?_
        refine G_iconst (pc := 91) (v := nI 3) dX10_fittingOf_91 (by decide) ?_
        refine N_icmp_gt (pc := 92) (tgt := 152) dX10_fittingOf_92 (by decide) (by omega) (fun c92 => absurd c92 (by omega)) (fun c92 => ?_)
        refine G_aload_n (pc := 95) dX10_fittingOf_95 rfl rfl ?_
        refine G_aload_n (pc := 96) dX10_fittingOf_96 rfl rfl ?_
        refine S_getR (pc := 97) (b := 400) dX10_fittingOf_97 fX10_40 rfl rfl (by first | rfl | assumption) rfl rfl ?_
        refine G_iload (pc := 100) dX10_fittingOf_100 rfl ?_
        refine N_iald (pc := 102) dX10_fittingOf_102 (by first | rfl | assumption) (by first | rfl | assumption) (by omega) ?_
        rw [hq]
        refine G_iload (pc := 103) dX10_fittingOf_103 rfl ?_
        refine S_callV (av := [_, _]) (pc := 105) (z := mX10_leftOf) (ci := 9) dX10_fittingOf_105 zX10_leftOf lX10_fittingOf_198 rfl (by first | rfl | assumption) rfl rfl (sX10_leftOf hL (by omega) hts hsh ⟨_, rfl, ?_⟩)
        rw [hx, show oI (some x) = nI x from rfl]
        refine G_istore (pc := 108) dX10_fittingOf_108 (by decide) rfl ?_
        refine G_lload_n (pc := 110) dX10_fittingOf_110 rfl rfl ?_
        refine G_iload (pc := 111) dX10_fittingOf_111 rfl ?_
        refine N_if_lt (pc := 113) (tgt := 132) dX10_fittingOf_113 (by decide) (by omega) ?_
        refine G_aload_n (pc := 116) dX10_fittingOf_116 rfl rfl ?_
        refine G_aload_n (pc := 117) dX10_fittingOf_117 rfl rfl ?_
        refine S_getR (pc := 118) (b := 400) dX10_fittingOf_118 fX10_40 rfl rfl (by first | rfl | assumption) rfl rfl ?_
        refine G_iload (pc := 121) dX10_fittingOf_121 rfl ?_
        refine N_iald (pc := 123) dX10_fittingOf_123 (by first | rfl | assumption) (by first | rfl | assumption) (by omega) ?_
        rw [hq]
        refine G_iload (pc := 124) dX10_fittingOf_124 rfl ?_
        refine S_callV (av := [_, _]) (pc := 126) (z := mX10_typedAt) (ci := 9) dX10_fittingOf_126 zX10_typedAt lX10_fittingOf_192 rfl (by first | rfl | assumption) rfl rfl (sX10_typedAt hL (by omega) hts hby hsh ⟨_, rfl, ?_⟩)
        rw [hy]
        refine T_if_ge (pc := 129) (tgt := 136) dX10_fittingOf_129 (by decide) (fun c129 => absurd c129 (by decide)) (fun c129 => ?_)
        refine G_lconst (pc := 132) (v := 0) dX10_fittingOf_132 (by decide) ?_
        refine G_goto (pc := 133) (tgt := 144) dX10_fittingOf_133 (by decide) ?_
        refine G_ladd (pc := 144) dX10_fittingOf_144 ?_
        rw [show lN acc + 0 = lN (acc + 0) from lN_add acc 0]
        refine G_lstore_n (pc := 145) dX10_fittingOf_145 rfl (by decide) rfl ?_
        refine N_iinc (pc := 146) dX10_fittingOf_146 rfl (by decide) rfl ?_
        refine G_goto (pc := 149) (tgt := 89) dX10_fittingOf_149 (by decide) ?_
        exact K _
      · have e0 : fT3 S ts B (F.getD f (0, 0)).2 m = cntB B x := by unfold fT3; rw [hx, hy]
        rw [e0] at K
        have hw : w < 67108864 := typG_lt (by omega) ts 0 0 w hby (by decide) hy
        refine G_iload (pc := 89) dX10_fittingOf_89 rfl ?_
        refine G_iconst (pc := 91) (v := nI 3) dX10_fittingOf_91 (by decide) ?_
        refine N_icmp_gt (pc := 92) (tgt := 152) dX10_fittingOf_92 (by decide) (by omega) (fun c92 => absurd c92 (by omega)) (fun c92 => ?_)
        refine G_aload_n (pc := 95) dX10_fittingOf_95 rfl rfl ?_
        refine G_aload_n (pc := 96) dX10_fittingOf_96 rfl rfl ?_
        refine S_getR (pc := 97) (b := 400) dX10_fittingOf_97 fX10_40 rfl rfl (by first | rfl | assumption) rfl rfl ?_
        refine G_iload (pc := 100) dX10_fittingOf_100 rfl ?_
        refine N_iald (pc := 102) dX10_fittingOf_102 (by first | rfl | assumption) (by first | rfl | assumption) (by omega) ?_
        rw [hq]
        refine G_iload (pc := 103) dX10_fittingOf_103 rfl ?_
        refine S_callV (av := [_, _]) (pc := 105) (z := mX10_leftOf) (ci := 9) dX10_fittingOf_105 zX10_leftOf lX10_fittingOf_198 rfl (by first | rfl | assumption) rfl rfl (sX10_leftOf hL (by omega) hts hsh ⟨_, rfl, ?_⟩)
        rw [hx, show oI (some x) = nI x from rfl]
        refine G_istore (pc := 108) dX10_fittingOf_108 (by decide) rfl ?_
        refine G_lload_n (pc := 110) dX10_fittingOf_110 rfl rfl ?_
        refine G_iload (pc := 111) dX10_fittingOf_111 rfl ?_
        refine N_if_lt (pc := 113) (tgt := 132) dX10_fittingOf_113 (by decide) (by omega) ?_
        refine G_aload_n (pc := 116) dX10_fittingOf_116 rfl rfl ?_
        refine G_aload_n (pc := 117) dX10_fittingOf_117 rfl rfl ?_
        refine S_getR (pc := 118) (b := 400) dX10_fittingOf_118 fX10_40 rfl rfl (by first | rfl | assumption) rfl rfl ?_
        refine G_iload (pc := 121) dX10_fittingOf_121 rfl ?_
        refine N_iald (pc := 123) dX10_fittingOf_123 (by first | rfl | assumption) (by first | rfl | assumption) (by omega) ?_
        rw [hq]
        refine G_iload (pc := 124) dX10_fittingOf_124 rfl ?_
        refine S_callV (av := [_, _]) (pc := 126) (z := mX10_typedAt) (ci := 9) dX10_fittingOf_126 zX10_typedAt lX10_fittingOf_192 rfl (by first | rfl | assumption) rfl rfl (sX10_typedAt hL (by omega) hts hby hsh ⟨_, rfl, ?_⟩)
        rw [hy, show oI (some w) = nI w from rfl]
        refine N_if_ge (pc := 129) (tgt := 136) dX10_fittingOf_129 (by decide) (by omega) ?_
        refine G_aload_n (pc := 136) dX10_fittingOf_136 rfl rfl ?_
        refine S_getR (pc := 137) (b := 403) dX10_fittingOf_137 fX10_50 rfl rfl (by first | rfl | assumption) rfl rfl ?_
        refine G_iload (pc := 140) dX10_fittingOf_140 rfl ?_
        refine N_iald (pc := 142) dX10_fittingOf_142 (by first | rfl | assumption) (by first | rfl | assumption) (by omega) ?_
        rw [hC x hx2]
        refine G_i2l (pc := 143) dX10_fittingOf_143 ?_
        rw [nI_l (by omega)]
        refine G_ladd (pc := 144) dX10_fittingOf_144 ?_
        rw [lN_add]
        refine G_lstore_n (pc := 145) dX10_fittingOf_145 rfl (by decide) rfl ?_
        refine N_iinc (pc := 146) dX10_fittingOf_146 rfl (by decide) rfl ?_
        refine G_goto (pc := 149) (tgt := 89) dX10_fittingOf_149 (by decide) ?_
        exact K _
set_option maxRecDepth 100000 in
set_option maxHeartbeats 4000000 in
theorem fittingOf_lp {ts : List Nat} {F B : List (Nat × Nat)} {n : Nat} (hn : 1 ≤ n ∧ n ≤ 3) (hts : TsOk S ts) (hsh : ShIs S ts) (hby : EnBy S ts) (hF : FrIs S F) (hC : BhC S B) (hFl : F.length ≤ 4803) (hL : ∀ i, i < F.length → (F.getD i (0, 0)).2 < 65536) (hBl : B.length ≤ 4803) :
    ∀ (d f : Nat) (o5 o6 : Option AV), f + d = F.length → Q (some (aL (lN (fitP S ts F B n F.length)))) (mk S) →
      G sc mX10_fittingOf 5 [some (aR 389), some (aI (nI n)), some (aL (lN (fitP S ts F B n f))), none, some (aI (nI f)), o5, o6] [] (mk S) Q := by
  intro d
  induction d with
  | zero =>
    intro f o5 o6 hf h
    have e : f = F.length := by omega
    subst e
    refine G_iload (pc := 5) dX10_fittingOf_5 rfl ?_
    refine G_aload_n (pc := 7) dX10_fittingOf_7 rfl rfl ?_
    refine S_getI (pc := 8) dX10_fittingOf_8 fX10_175 rfl (by first | rfl | assumption) rfl ?_
    rw [hF.1]
    refine N_icmp_ge (pc := 11) (tgt := 158) dX10_fittingOf_11 (by decide) (by omega) (fun c11 => ?_) (fun c11 => absurd c11 (by omega))
    refine G_lload_n (pc := 158) dX10_fittingOf_158 rfl rfl ?_
    refine S_lret (pc := 159) dX10_fittingOf_159 rfl ?_
    exact h
  | succ d ih =>
    intro f o5 o6 hf h
    have hq := (hF.2 f (by omega)).2
    have hLf := hL f (by omega)
    have K : ∀ (o5 o6 : Option AV) (v : Nat), v = fitP S ts F B n f + fT S ts B n (F.getD f (0, 0)).2 → G sc mX10_fittingOf 152 [some (aR 389), some (aI (nI n)), some (aL (lN v)), none, some (aI (nI f)), o5, o6] [] (mk S) Q := by
      intro o5 o6 v hv
      have hv2 : v = fitP S ts F B n (f + 1) := hv
      rw [hv2]
      refine N_iinc (pc := 152) dX10_fittingOf_152 rfl (by decide) rfl ?_
      refine G_goto (pc := 155) (tgt := 5) dX10_fittingOf_155 (by decide) ?_
      exact ih (f + 1) o5 o6 (by omega) h
    rcases (show n = 1 ∨ n = 2 ∨ n = 3 by omega) with rfl | rfl | rfl
    · skip
      refine G_iload (pc := 5) dX10_fittingOf_5 rfl ?_
      refine G_aload_n (pc := 7) dX10_fittingOf_7 rfl rfl ?_
      refine S_getI (pc := 8) dX10_fittingOf_8 fX10_175 rfl (by first | rfl | assumption) rfl ?_
      rw [hF.1]
      refine N_icmp_ge (pc := 11) (tgt := 158) dX10_fittingOf_11 (by decide) (by omega) (fun c11 => absurd c11 (by omega)) (fun c11 => ?_)
      refine G_iload_n (pc := 14) dX10_fittingOf_14 rfl rfl ?_
      refine G_iconst (pc := 15) (v := nI 1) dX10_fittingOf_15 (by decide) ?_
      refine N_icmp_ne (pc := 16) (tgt := 44) dX10_fittingOf_16 (by decide) (by omega) (fun c16 => absurd c16 (by omega)) (fun c16 => ?_)
      refine G_lload_n (pc := 19) dX10_fittingOf_19 rfl rfl ?_
      refine G_aload_n (pc := 20) dX10_fittingOf_20 rfl rfl ?_
      refine G_aload_n (pc := 21) dX10_fittingOf_21 rfl rfl ?_
      refine S_getR (pc := 22) (b := 400) dX10_fittingOf_22 fX10_40 rfl rfl (by first | rfl | assumption) rfl rfl ?_
      refine G_iload (pc := 25) dX10_fittingOf_25 rfl ?_
      refine N_iald (pc := 27) dX10_fittingOf_27 (by first | rfl | assumption) (by first | rfl | assumption) (by omega) ?_
      rw [hq]
      refine S_callV (av := [_]) (pc := 28) (z := mX10_isAll) (ci := 9) dX10_fittingOf_28 zX10_isAll lX10_fittingOf_195 rfl (by first | rfl | assumption) rfl rfl (sX10_isAll hLf hts hsh ⟨_, rfl, ?_⟩)
      refine B_if_eq (pc := 31) (tgt := 38) dX10_fittingOf_31 (by decide) (fun c31 => ?_) (fun c31 => ?_)
      · skip
        have K := K o5 o6 (fitP S ts F B 1 f + 0) (by unfold fT; rw [if_pos rfl, if_neg (by rw [c31]; decide)])
        refine G_lconst (pc := 38) (v := 0) dX10_fittingOf_38 (by decide) ?_
        refine G_ladd (pc := 39) dX10_fittingOf_39 ?_
        refine G_lstore_n (pc := 40) dX10_fittingOf_40 rfl (by decide) rfl ?_
        refine G_goto (pc := 41) (tgt := 152) dX10_fittingOf_41 (by decide) ?_
        first
        | (rw [show lN (fitP S ts F B 1 f) + 0 = lN (fitP S ts F B 1 f + 0) from lN_add _ 0]; exact K)
        | (rw [show lN (fitP S ts F B 1 f) + 1 = lN (fitP S ts F B 1 f + 1) from lN_add _ 1]; exact K)
      · skip
        have K := K o5 o6 (fitP S ts F B 1 f + 1) (by unfold fT; rw [if_pos rfl, if_pos c31])
        refine G_lconst (pc := 34) (v := 1) dX10_fittingOf_34 (by decide) ?_
        refine G_goto (pc := 35) (tgt := 39) dX10_fittingOf_35 (by decide) ?_
        refine G_ladd (pc := 39) dX10_fittingOf_39 ?_
        refine G_lstore_n (pc := 40) dX10_fittingOf_40 rfl (by decide) rfl ?_
        refine G_goto (pc := 41) (tgt := 152) dX10_fittingOf_41 (by decide) ?_
        first
        | (rw [show lN (fitP S ts F B 1 f) + 0 = lN (fitP S ts F B 1 f + 0) from lN_add _ 0]; exact K)
        | (rw [show lN (fitP S ts F B 1 f) + 1 = lN (fitP S ts F B 1 f + 1) from lN_add _ 1]; exact K)
    · rcases hx : leftG S (F.getD f (0, 0)).2 0 ts 0 0 with _ | x
      · skip
        refine G_iload (pc := 5) dX10_fittingOf_5 rfl ?_
        refine G_aload_n (pc := 7) dX10_fittingOf_7 rfl rfl ?_
        refine S_getI (pc := 8) dX10_fittingOf_8 fX10_175 rfl (by first | rfl | assumption) rfl ?_
        rw [hF.1]
        refine N_icmp_ge (pc := 11) (tgt := 158) dX10_fittingOf_11 (by decide) (by omega) (fun c11 => absurd c11 (by omega)) (fun c11 => ?_)
        refine G_iload_n (pc := 14) dX10_fittingOf_14 rfl rfl ?_
        refine G_iconst (pc := 15) (v := nI 1) dX10_fittingOf_15 (by decide) ?_
        refine N_icmp_ne (pc := 16) (tgt := 44) dX10_fittingOf_16 (by decide) (by omega) (fun c16 => ?_) (fun c16 => absurd c16 (by omega))
        refine G_iload_n (pc := 44) dX10_fittingOf_44 rfl rfl ?_
        refine G_iconst (pc := 45) (v := nI 2) dX10_fittingOf_45 (by decide) ?_
        refine N_icmp_ne (pc := 46) (tgt := 86) dX10_fittingOf_46 (by decide) (by omega) (fun c46 => absurd c46 (by omega)) (fun c46 => ?_)
        refine G_aload_n (pc := 49) dX10_fittingOf_49 rfl rfl ?_
        refine G_aload_n (pc := 50) dX10_fittingOf_50 rfl rfl ?_
        refine S_getR (pc := 51) (b := 400) dX10_fittingOf_51 fX10_40 rfl rfl (by first | rfl | assumption) rfl rfl ?_
        refine G_iload (pc := 54) dX10_fittingOf_54 rfl ?_
        refine N_iald (pc := 56) dX10_fittingOf_56 (by first | rfl | assumption) (by first | rfl | assumption) (by omega) ?_
        rw [hq]
        refine G_iconst (pc := 57) (v := nI 0) dX10_fittingOf_57 (by decide) ?_
        refine S_callV (av := [_, _]) (pc := 58) (z := mX10_leftOf) (ci := 9) dX10_fittingOf_58 zX10_leftOf lX10_fittingOf_198 rfl (by first | rfl | assumption) rfl rfl (sX10_leftOf hLf (by omega) hts hsh ⟨_, rfl, ?_⟩)
        rw [hx]
        refine G_istore (pc := 61) dX10_fittingOf_61 (by decide) rfl ?_
        refine G_lload_n (pc := 63) dX10_fittingOf_63 rfl rfl ?_
        refine G_iload (pc := 64) dX10_fittingOf_64 rfl ?_
        refine T_if_ge (pc := 66) (tgt := 73) dX10_fittingOf_66 (by decide) (fun c66 => absurd c66 (by decide)) (fun c66 => ?_)
        refine G_lconst (pc := 69) (v := 0) dX10_fittingOf_69 (by decide) ?_
        refine G_goto (pc := 70) (tgt := 81) dX10_fittingOf_70 (by decide) ?_
        refine G_ladd (pc := 81) dX10_fittingOf_81 ?_
        refine G_lstore_n (pc := 82) dX10_fittingOf_82 rfl (by decide) rfl ?_
        refine G_goto (pc := 83) (tgt := 152) dX10_fittingOf_83 (by decide) ?_
        rw [show lN (fitP S ts F B 2 f) + 0 = lN (fitP S ts F B 2 f + 0) from lN_add _ 0]
        exact K _ o6 _ (by unfold fT; rw [if_neg (by decide), if_pos rfl, hx])
      · have hx2 := leftF_lt hts hx
        have hcm := cntB_le B x
        refine G_iload (pc := 5) dX10_fittingOf_5 rfl ?_
        refine G_aload_n (pc := 7) dX10_fittingOf_7 rfl rfl ?_
        refine S_getI (pc := 8) dX10_fittingOf_8 fX10_175 rfl (by first | rfl | assumption) rfl ?_
        rw [hF.1]
        refine N_icmp_ge (pc := 11) (tgt := 158) dX10_fittingOf_11 (by decide) (by omega) (fun c11 => absurd c11 (by omega)) (fun c11 => ?_)
        refine G_iload_n (pc := 14) dX10_fittingOf_14 rfl rfl ?_
        refine G_iconst (pc := 15) (v := nI 1) dX10_fittingOf_15 (by decide) ?_
        refine N_icmp_ne (pc := 16) (tgt := 44) dX10_fittingOf_16 (by decide) (by omega) (fun c16 => ?_) (fun c16 => absurd c16 (by omega))
        refine G_iload_n (pc := 44) dX10_fittingOf_44 rfl rfl ?_
        refine G_iconst (pc := 45) (v := nI 2) dX10_fittingOf_45 (by decide) ?_
        refine N_icmp_ne (pc := 46) (tgt := 86) dX10_fittingOf_46 (by decide) (by omega) (fun c46 => absurd c46 (by omega)) (fun c46 => ?_)
        refine G_aload_n (pc := 49) dX10_fittingOf_49 rfl rfl ?_
        refine G_aload_n (pc := 50) dX10_fittingOf_50 rfl rfl ?_
        refine S_getR (pc := 51) (b := 400) dX10_fittingOf_51 fX10_40 rfl rfl (by first | rfl | assumption) rfl rfl ?_
        refine G_iload (pc := 54) dX10_fittingOf_54 rfl ?_
        refine N_iald (pc := 56) dX10_fittingOf_56 (by first | rfl | assumption) (by first | rfl | assumption) (by omega) ?_
        rw [hq]
        refine G_iconst (pc := 57) (v := nI 0) dX10_fittingOf_57 (by decide) ?_
        refine S_callV (av := [_, _]) (pc := 58) (z := mX10_leftOf) (ci := 9) dX10_fittingOf_58 zX10_leftOf lX10_fittingOf_198 rfl (by first | rfl | assumption) rfl rfl (sX10_leftOf hLf (by omega) hts hsh ⟨_, rfl, ?_⟩)
        rw [hx, show oI (some x) = nI x from rfl]
        refine G_istore (pc := 61) dX10_fittingOf_61 (by decide) rfl ?_
        refine G_lload_n (pc := 63) dX10_fittingOf_63 rfl rfl ?_
        refine G_iload (pc := 64) dX10_fittingOf_64 rfl ?_
        refine N_if_ge (pc := 66) (tgt := 73) dX10_fittingOf_66 (by decide) (by omega) ?_
        refine G_aload_n (pc := 73) dX10_fittingOf_73 rfl rfl ?_
        refine S_getR (pc := 74) (b := 403) dX10_fittingOf_74 fX10_50 rfl rfl (by first | rfl | assumption) rfl rfl ?_
        refine G_iload (pc := 77) dX10_fittingOf_77 rfl ?_
        refine N_iald (pc := 79) dX10_fittingOf_79 (by first | rfl | assumption) (by first | rfl | assumption) (by omega) ?_
        rw [hC x hx2]
        refine G_i2l (pc := 80) dX10_fittingOf_80 ?_
        rw [nI_l (by omega)]
        refine G_ladd (pc := 81) dX10_fittingOf_81 ?_
        rw [lN_add]
        refine G_lstore_n (pc := 82) dX10_fittingOf_82 rfl (by decide) rfl ?_
        refine G_goto (pc := 83) (tgt := 152) dX10_fittingOf_83 (by decide) ?_
        exact K _ o6 _ (by unfold fT; rw [if_neg (by decide), if_pos rfl, hx])
    · skip
      refine G_iload (pc := 5) dX10_fittingOf_5 rfl ?_
      refine G_aload_n (pc := 7) dX10_fittingOf_7 rfl rfl ?_
      refine S_getI (pc := 8) dX10_fittingOf_8 fX10_175 rfl (by first | rfl | assumption) rfl ?_
      rw [hF.1]
      refine N_icmp_ge (pc := 11) (tgt := 158) dX10_fittingOf_11 (by decide) (by omega) (fun c11 => absurd c11 (by omega)) (fun c11 => ?_)
      refine G_iload_n (pc := 14) dX10_fittingOf_14 rfl rfl ?_
      refine G_iconst (pc := 15) (v := nI 1) dX10_fittingOf_15 (by decide) ?_
      refine N_icmp_ne (pc := 16) (tgt := 44) dX10_fittingOf_16 (by decide) (by omega) (fun c16 => ?_) (fun c16 => absurd c16 (by omega))
      refine G_iload_n (pc := 44) dX10_fittingOf_44 rfl rfl ?_
      refine G_iconst (pc := 45) (v := nI 2) dX10_fittingOf_45 (by decide) ?_
      refine N_icmp_ne (pc := 46) (tgt := 86) dX10_fittingOf_46 (by decide) (by omega) (fun c46 => ?_) (fun c46 => absurd c46 (by omega))
      refine G_iconst (pc := 86) (v := nI 1) dX10_fittingOf_86 (by decide) ?_
      refine G_istore (pc := 87) dX10_fittingOf_87 (by decide) rfl ?_
      exact fit3_lp hts hsh hby hF hC (by omega) hFl hLf hBl 3 1 _ _ (by omega) (by omega) (fun o6 v hv => K _ o6 v (by rw [hv, fT_3, if_pos (by decide), if_pos (by decide), if_pos (by decide)]; show fitP S ts F B 3 f + fT3 S ts B (F.getD f (0, 0)).2 1 + fT3 S ts B (F.getD f (0, 0)).2 2 + fT3 S ts B (F.getD f (0, 0)).2 3 = _; omega))
set_option maxRecDepth 100000 in
set_option maxHeartbeats 4000000 in
theorem sX10_fittingOf {ts : List Nat} {F B : List (Nat × Nat)} {n : Nat} (hn : 1 ≤ n ∧ n ≤ 3) (hts : TsOk S ts) (hsh : ShIs S ts) (hby : EnBy S ts) (hF : FrIs S F) (hC : BhC S B) (hFl : F.length ≤ 4803) (hL : ∀ i, i < F.length → (F.getD i (0, 0)).2 < 65536) (hBl : B.length ≤ 4803) (h : Q (some (aL (lN (fitP S ts F B n F.length)))) (mk S)) : CT sc mX10_fittingOf [aR 389, aI (nI n)] (mk S) Q := by
  refine S_of (by decide) rfl ?_
  show G sc mX10_fittingOf 0 [some (aR 389), some (aI (nI n)), none, none, none, none, none] [] (mk S) Q
  refine G_lconst (pc := 0) (v := 0) dX10_fittingOf_0 (by decide) ?_
  refine G_lstore_n (pc := 1) dX10_fittingOf_1 rfl (by decide) rfl ?_
  refine G_iconst (pc := 2) (v := nI 0) dX10_fittingOf_2 (by decide) ?_
  refine G_istore (pc := 3) dX10_fittingOf_3 (by decide) rfl ?_
  exact fittingOf_lp hn hts hsh hby hF hC hFl hL hBl F.length 0 _ _ (by omega) h
end M25
