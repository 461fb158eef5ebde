/-! the nearest programs' typed bytes; the model: doing -/
theorem typN_by {S : ST} {t f q : Nat} (hq : 1 ≤ q ∧ q ≤ 3) (h : ∀ j, j < q → isBy (enB S t (f + j))) : byPc (typN S t f q 0 (q * 16777216)) := by
  intro _ i hi
  rcases (show q = 1 ∨ q = 2 ∨ q = 3 by omega) with rfl | rfl | rfl
  · have h0 := (isBy_n (h 0 (by omega))).2
    have e : typN S t f 1 0 (1 * 16777216) = 1 * 16777216 + (enB S t (f + 0)).toNatClampNeg * 1 := rfl
    rw [e] at hi ⊢
    generalize (enB S t (f + 0)).toNatClampNeg = a at *
    have hi2 : i < 1 := by omega
    rw [show i = 0 by omega]
    show 32 ≤ (1 * 16777216 + a * 1) / 1 % 256 ∧ (1 * 16777216 + a * 1) / 1 % 256 ≤ 126
    omega
  · have h0 := (isBy_n (h 0 (by omega))).2
    have h1 := (isBy_n (h 1 (by omega))).2
    have e : typN S t f 2 0 (2 * 16777216) = 2 * 16777216 + (enB S t (f + 0)).toNatClampNeg * 256 + (enB S t (f + 1)).toNatClampNeg * 1 := rfl
    rw [e] at hi ⊢
    generalize (enB S t (f + 0)).toNatClampNeg = a at *
    generalize (enB S t (f + 1)).toNatClampNeg = b at *
    have hi2 : i < 2 := by omega
    rcases (show i = 0 ∨ i = 1 by omega) with rfl | rfl
    · show 32 ≤ (2 * 16777216 + a * 256 + b * 1) / 1 % 256 ∧ (2 * 16777216 + a * 256 + b * 1) / 1 % 256 ≤ 126
      omega
    · show 32 ≤ (2 * 16777216 + a * 256 + b * 1) / 256 % 256 ∧ (2 * 16777216 + a * 256 + b * 1) / 256 % 256 ≤ 126
      omega
  · have h0 := (isBy_n (h 0 (by omega))).2
    have h1 := (isBy_n (h 1 (by omega))).2
    have h2 := (isBy_n (h 2 (by omega))).2
    have e : typN S t f 3 0 (3 * 16777216) = 3 * 16777216 + (enB S t (f + 0)).toNatClampNeg * 65536 + (enB S t (f + 1)).toNatClampNeg * 256 + (enB S t (f + 2)).toNatClampNeg * 1 := rfl
    rw [e] at hi ⊢
    generalize (enB S t (f + 0)).toNatClampNeg = a at *
    generalize (enB S t (f + 1)).toNatClampNeg = b at *
    generalize (enB S t (f + 2)).toNatClampNeg = c at *
    have hi2 : i < 3 := by omega
    rcases (show i = 0 ∨ i = 1 ∨ i = 2 by omega) with rfl | rfl | rfl
    · show 32 ≤ (3 * 16777216 + a * 65536 + b * 256 + c * 1) / 1 % 256 ∧ (3 * 16777216 + a * 65536 + b * 256 + c * 1) / 1 % 256 ≤ 126
      omega
    · show 32 ≤ (3 * 16777216 + a * 65536 + b * 256 + c * 1) / 256 % 256 ∧ (3 * 16777216 + a * 65536 + b * 256 + c * 1) / 256 % 256 ≤ 126
      omega
    · show 32 ≤ (3 * 16777216 + a * 65536 + b * 256 + c * 1) / 65536 % 256 ∧ (3 * 16777216 + a * 65536 + b * 256 + c * 1) / 65536 % 256 ≤ 126
      omega
theorem typG_by {S : ST} {n q : Nat} (hq : 1 ≤ q ∧ q ≤ 3) : ∀ (r : List Nat) (k f v : Nat), (∀ t ∈ r, ∀ j, j < esN S t → isBy (enB S t j)) → (r = [] → byPc f) → typG S n q r k f = some v → byPc v
  | [], k, f, v, _, h, e => by cases e; exact h rfl
  | t :: r, k, f, v, hby, _, e => by
    unfold typG at e
    split at e
    · rename_i hc
      split at e
      · cases e
      · exact typG_by hq r (k + 1) _ v (fun u hu => hby u (List.mem_cons_of_mem _ hu)) (fun _ => typN_by hq (fun j hj => hby t List.mem_cons_self _ (by omega))) e
    · cases e
def LbOk (F : List (Nat × Nat)) : Prop := ∀ q ∈ F, byPc q.1
theorem byCut {p : Nat} (h : p < 4800) : byPc p := fun z => by omega
theorem pcF_b {S : ST} {ts : List Nat} {bh : Bool} : ∀ c, c ≤ 4800 → LbOk (pcF S ts bh c)
  | 0, _ => fun q hq => by cases hq
  | c + 1, hc => by
    intro q hq
    unfold pcF oApp at hq
    split at hq
    · rcases List.mem_append.mp hq with hq | hq
      · exact pcF_b c (by omega) q hq
      · rw [List.mem_singleton] at hq
        subst hq
        exact byCut (by show c < 4800; omega)
    · exact pcF_b c (by omega) q hq
theorem tApp_b {F : List (Nat × Nat)} {o : Option Nat} {n : Nat} (hF : LbOk F) (ho : ∀ p, o = some p → byPc p) : LbOk (tApp F o n) := by
  intro q hq
  unfold tApp at hq
  split at hq
  · rcases List.mem_append.mp hq with hq | hq
    · exact hF q hq
    · rw [List.mem_singleton] at hq
      subst hq
      exact ho _ rfl
  · exact hF q hq
theorem tyF_b {S : ST} {ts : List Nat} {m w : Nat} (h0 : ts ≠ []) (hby : EnBy S ts) (hm : 1 ≤ m ∧ m ≤ 3) (h : tyF S ts m = some w) : byPc w := by
  unfold tyF at h
  split at h
  · exact typG_by hm ts 0 0 w hby (fun e => absurd e h0) h
  · cases h
theorem tyB_b {S : ST} {ts : List Nat} {m w : Nat} (h0 : ts ≠ []) (hby : EnBy S ts) (hm : 1 ≤ m ∧ m ≤ 3) (h : tyB S ts m = some w) : byPc w := by
  unfold tyB at h
  split at h
  · exact typG_by hm ts 0 0 w hby (fun e => absurd e h0) h
  · cases h
theorem frT_b {S : ST} {ts : List Nat} (h0 : ts ≠ []) (hby : EnBy S ts) : ∀ d m F, 1 ≤ m → m + d ≤ 4 → LbOk F → LbOk (frT S ts d m F)
  | 0, _, _, _, _, h => h
  | d + 1, m, F, h1, h2, h => frT_b h0 hby d (m + 1) _ (by omega) (by omega) (tApp_b h (fun p hp => tyF_b h0 hby (by omega) hp))
theorem bhT_b {S : ST} {ts : List Nat} (h0 : ts ≠ []) (hby : EnBy S ts) : ∀ d m F, 1 ≤ m → m + d ≤ 4 → LbOk F → LbOk (bhT S ts d m F)
  | 0, _, _, _, _, h => h
  | d + 1, m, F, h1, h2, h => bhT_b h0 hby d (m + 1) _ (by omega) (by omega) (tApp_b h (fun p hp => tyB_b h0 hby (by omega) hp))
theorem frA_b {S : ST} {ts : List Nat} (h0 : ts ≠ []) (hby : EnBy S ts) : LbOk (frA S ts) := frT_b h0 hby 3 1 _ (by omega) (by omega) (pcF_b 4800 (by omega))
theorem bhA_b {S : ST} {ts : List Nat} (h0 : ts ≠ []) (hby : EnBy S ts) : LbOk (bhA S ts) := bhT_b h0 hby 3 1 _ (by omega) (by omega) (pcF_b 4800 (by omega))
def PsB (N : List (List Nat)) : Prop := ∀ ps ∈ N, PbOk ps
theorem PsB.app {N l : List (List Nat)} (h1 : PsB N) (h2 : PsB l) : PsB (N ++ l) := fun ps hp => by
  rcases List.mem_append.mp hp with h | h
  · exact h1 ps h
  · exact h2 ps h
theorem PsB.nil : PsB [] := fun _ h => by cases h
theorem PsB.one {ps : List Nat} (h : PbOk ps) : PsB [ps] := fun x hx => by rw [List.mem_singleton] at hx; subst hx; exact h
theorem pb1 {a : Nat} (h : byPc a) : PbOk [a] := fun x hx => by rw [List.mem_singleton] at hx; subst hx; exact h
theorem pb2 {a b : Nat} (h : byPc a) (h2 : byPc b) : PbOk [a, b] := fun x hx => by
  simp only [List.mem_cons, List.not_mem_nil, or_false] at hx
  rcases hx with rfl | rfl
  · exact h
  · exact h2
theorem pb3 {a m b : Nat} (h : byPc a) (hm : byPc m) (h2 : byPc b) : PbOk [a, m, b] := fun x hx => by
  simp only [List.mem_cons, List.not_mem_nil, or_false] at hx
  rcases hx with rfl | rfl | rfl
  · exact h
  · exact hm
  · exact h2
theorem wiF_b {B : List (Nat × Nat)} {fp left : Nat} {mid : Option Nat} {c : Int} (hB : LbOk B) (hf : byPc fp) (hm : ∀ m, mid = some m → byPc m) : ∀ d b, b + d ≤ B.length → PsB (wiF B fp mid left c d b)
  | 0, _, _ => PsB.nil
  | d + 1, b, hb => by
    unfold wiF
    refine PsB.app ?_ (wiF_b hB hf hm d (b + 1) (by omega))
    have h1 := hB _ (getD_mem2 (show b < B.length by omega))
    split
    · refine PsB.one ?_
      cases mid with
      | none => exact pb2 hf h1
      | some m => exact pb3 hf (hm m rfl) h1
    · exact PsB.nil
theorem wiO_b {B : List (Nat × Nat)} {fp : Nat} {left mid : Option Nat} {c : Int} (hB : LbOk B) (hf : byPc fp) (hm : ∀ m, mid = some m → byPc m) : PsB (wiO B fp mid left c) := by
  unfold wiO
  split
  · exact wiF_b hB hf hm _ _ (by omega)
  · exact PsB.nil
theorem cstF_b {S : ST} {ts : List Nat} {F B : List (Nat × Nat)} (h0 : ts ≠ []) (hby : EnBy S ts) (hF : LbOk F) (hB : LbOk B) : ∀ d c, PsB (cstF S ts F B d c)
  | 0, _ => PsB.nil
  | d + 1, c => by
    have o1 : ∀ d f, f + d ≤ F.length → PsB (oneF S ts F c d f) := by
      intro d
      induction d with
      | zero => intro f _; exact PsB.nil
      | succ d ih =>
        intro f hf
        unfold oneF
        refine PsB.app ?_ (ih (f + 1) (by omega))
        split
        · exact PsB.one (pb1 (hF _ (getD_mem2 (by omega))))
        · exact PsB.nil
    have o2 : ∀ d f, f + d ≤ F.length → PsB (twoF S ts F B c d f) := by
      intro d
      induction d with
      | zero => intro f _; exact PsB.nil
      | succ d ih =>
        intro f hf
        unfold twoF two1
        exact PsB.app (wiO_b hB (hF _ (getD_mem2 (by omega))) (fun m hm => by cases hm)) (ih (f + 1) (by omega))
    have o3 : ∀ f, f < F.length → ∀ d m, 1 ≤ m → m + d ≤ 4 → PsB (thrM S ts F B c f d m) := by
      intro f hf d
      induction d with
      | zero => intro m _ _; exact PsB.nil
      | succ d ih =>
        intro m hm hm2
        unfold thrM thr1
        refine PsB.app ?_ (ih (m + 1) (by omega) (by omega))
        split
        · rename_i w hw
          exact wiO_b hB (hF _ (getD_mem2 hf)) (fun x hx => by cases hx; exact typG_by (by omega) ts 0 0 _ hby (fun e => absurd e h0) hw)
        · exact PsB.nil
    have o4 : ∀ d f, f + d ≤ F.length → PsB (thrF S ts F B c d f) := by
      intro d
      induction d with
      | zero => intro f _; exact PsB.nil
      | succ d ih =>
        intro f hf
        unfold thrF
        exact PsB.app (o3 f (by omega) 3 1 (by omega) (by omega)) (ih (f + 1) (by omega))
    unfold cstF
    exact PsB.app (PsB.app (o1 _ _ (by omega)) (PsB.app (o2 _ _ (by omega)) (o4 _ _ (by omega)))) (cstF_b h0 hby hF hB d (c + 1))
theorem neA_b {S : ST} {ts : List Nat} (h0 : ts ≠ []) (hby : EnBy S ts) : PsB (neA S ts) := by
  intro ps hp
  unfold neA tk at hp
  rw [List.nil_append] at hp
  exact cstF_b h0 hby (frA_b h0 hby) (bhA_b h0 hby) _ _ ps (List.mem_of_mem_take hp)
theorem nr0_b {S : ST} (h : MI0 S) (h0 : shL S 0 ≠ []) (h1 : neA S (shL S 0) ≠ []) : PbOk (nr0 S) := by
  refine neA_b h0 (EnBy_sh h.2.1) _ ?_
  unfold nr0
  rw [List.getD_eq_getElem?_getD, List.getElem?_eq_getElem (List.length_pos_iff.mpr h1)]
  exact List.getElem_mem _
/-- things, lines, states, ends are the same -/
def Sm (S S' : ST) : Prop := S'.1 389 0 = S.1 389 0 ∧ ∀ a, 390 ≤ a ∧ a ≤ 395 → ∀ j, S'.2.1 a j = S.2.1 a j
theorem thN_m {S S' : ST} (h : Sm S S') : thN S' = thN S := by unfold thN; rw [h.1]
theorem SpW_m {S S' : ST} (h : Sm S S') : SpW S S' := fun a ha => h.2 a (by omega)
theorem stN_m {S S' : ST} (h : Sm S S') (t : Nat) : stN S' t = stN S t := by unfold stN; rw [h.2 392 (by omega)]
theorem cuN_m {S S' : ST} (h : Sm S S') : ∀ t, cuN S' t = cuN S t
  | 0 => rfl
  | t + 1 => by unfold cuN; rw [stN_m h, cuN_m h t]
theorem tcB_m {S S' : ST} (h : Sm S S') (n t : Nat) : tcB S' n t = tcB S n t := by unfold tcB; rw [stN_m h, cuN_m h]
theorem knF_m {S S' : ST} (h : Sm S S') (sh : List Nat) : ∀ t, knF S' sh t = knF S sh t
  | 0 => rfl
  | t + 1 => by unfold knF; rw [enB_w (SpW_m h), esN_w (SpW_m h), stN_m h, knF_m h sh t]
theorem oddB_m {S S' : ST} (h : Sm S S') (t : Nat) (ps : List Nat) : oddB S' t ps = oddB S t ps := by
  unfold oddB
  rw [lnB_w (SpW_m h), szN_w (SpW_m h)]
  split
  · rw [knF_m h, thN_m h]
  · rfl
theorem enL_m {S S' : ST} (h : Sm S S') (t : Nat) (ps : List Nat) : enL S' t ps = enL S t ps := by
  unfold enL
  rw [lnB_w (SpW_m h), szN_w (SpW_m h), oddB_m h]
theorem dnC_m {S S' : ST} (h : Sm S S') (n : Nat) (ps : List Nat) : ∀ t, dnC S' n ps t = dnC S n ps t
  | 0 => rfl
  | t + 1 => by unfold dnC; rw [tcB_m h, oddB_m h, dnC_m h n ps t]
theorem DgIs_m {S S1 S' : ST} (h : Sm S S1) {n dg t : Nat} {ps : List Nat} (hD : DgIs S1 S' n ps dg t) : DgIs S S' n ps dg t := by
  intro u hu
  have q := hD u hu
  unfold DgT DgN at q
  rw [tcB_m h, oddB_m h, enL_m h, h.2 392 (by omega), h.2 395 (by omega), h.2 394 (by omega)] at q
  exact ⟨q.1, fun z => ⟨(q.2 z).1, (q.2 z).2.1, (q.2 z).2.2.1, fun i hi => by rw [(q.2 z).2.2.2 i hi, h.2 393 (by omega)]⟩⟩
theorem MIa_m {S S' : ST} (h : Sm S S') (ha : MIa S) : MIa S' := MIa_of ha h.1 (h.2 391 (by omega)) (h.2 390 (by omega))
theorem MIb_m {S S' : ST} (h : Sm S S') (hb : MIb S) : MIb S' := by
  intro t ht
  rw [thN_m h] at ht
  have q := hb t ht
  simp only [stN, esN, h.2 392 (by omega), h.2 394 (by omega), h.2 393 (by omega)] at q ⊢
  exact q
abbrev vX (a j : Nat) : Prop := a = 389 ∧ (j = 7 ∨ j = 12 ∨ j = 13 ∨ j = 15 ∨ j = 18 ∨ j = 22 ∨ j = 27)
abbrev vA (a : Nat) : Prop := (392 ≤ a ∧ a ≤ 395) ∨ (397 ≤ a ∧ a ≤ 407)
section M37
variable {sc : SC} {S : ST} {Q : Option AV → HM → Prop}
set_option maxRecDepth 100000 in
set_option maxHeartbeats 4000000 in
theorem sX10_doing {n : Int32} (hi : MI0 S) (hg : MIg S) (hbad : ¬ (1 ≤ n.toInt ∧ n.toInt ≤ 12) → Q (some (aI (-1))) (mk S)) (h2 : 1 ≤ n.toInt ∧ n.toInt ≤ 12 → shL S 0 = [] → Q (some (aI (-2))) (mk S)) (h4 : 1 ≤ n.toInt ∧ n.toInt ≤ 12 → shL S 0 ≠ [] → neA S (shL S 0) = [] → ∀ S', Fr wX wA S S' → MIe S' → Q (some (aI (-4))) (mk S'))
    (h : ∀ k, n = nI k → 1 ≤ k ∧ k ≤ 12 → shL S 0 ≠ [] → neA S (shL S 0) ≠ [] → ∀ S', Fr vX vA S S' → MIe S' → S'.1 389 7 = nI (dgN S + 1) → DgIs S S' k (nr0 S) (dgN S + 1) (thN S) → Q (some (aI (nI (dnC S k (nr0 S) (thN S))))) (mk S')) : CT sc mX10_doing [aR 389, aI n] (mk S) Q := by
  refine S_of (by decide) rfl ?_
  show G sc mX10_doing 0 [some (aR 389), some (aI n), none, none, none, none, none, none] [] (mk S) Q
  have z1 : (1 : Int64).toInt = 1 := rfl
  have z12 : (12 : Int64).toInt = 12 := rfl
  have hg5 := hg.1.2
  refine G_iload_n (pc := 0) dX10_doing_0 rfl rfl ?_
  refine G_i2l (pc := 1) dX10_doing_1 ?_
  refine G_lconst (pc := 2) (v := 1) dX10_doing_2 (by decide) ?_
  refine G_ldc2 (pc := 3) dX10_doing_3 kX10_167 ?_
  refine S_callS (av := [_, _, _]) (pc := 6) (z := mX10_in) dX10_doing_6 zX10_in lX10_doing_84 rfl (sX10_in ⟨_, rfl, ?_⟩)
  refine B_if_ne (pc := 9) (tgt := 14) dX10_doing_9 (by decide) (fun c9 => ?_) (fun c9 => ?_)
  · skip
    rw [decide_eq_true_iff, Int32.toInt_toInt64, z1, z12] at c9
    have c9' := c9
    obtain ⟨k, hk, rfl⟩ := nI_ex (x := n) (n := 13) (by omega) (by omega)
    rw [nIt (by omega)] at c9
    refine G_aload_n (pc := 14) dX10_doing_14 rfl rfl ?_
    refine S_callV (av := []) (pc := 15) (z := mX10_lacksFit) (ci := 9) dX10_doing_15 zX10_lacksFit lX10_doing_235 rfl (by first | rfl | assumption) rfl rfl (sX10_lacksFit hi (fun e => ⟨_, rfl, ?_⟩) (fun e1 e2 S1 g1 g2 => ⟨_, rfl, ?_⟩) (fun e1 e2 S1 g1 g2 g3 => ⟨_, rfl, ?_⟩))
    · skip
      refine G_istore_n (pc := 18) dX10_doing_18 rfl (by decide) rfl ?_
      refine G_iload_n (pc := 19) dX10_doing_19 rfl rfl ?_
      refine T_if_ge (pc := 20) (tgt := 25) dX10_doing_20 (by decide) (fun c20 => absurd c20 (by decide)) (fun c20 => ?_)
      refine G_iload_n (pc := 23) dX10_doing_23 rfl rfl ?_
      refine S_iret (pc := 24) dX10_doing_24 rfl ?_
      exact h2 c9' e
    · skip
      refine G_istore_n (pc := 18) dX10_doing_18 rfl (by decide) rfl ?_
      refine G_iload_n (pc := 19) dX10_doing_19 rfl rfl ?_
      refine T_if_ge (pc := 20) (tgt := 25) dX10_doing_20 (by decide) (fun c20 => absurd c20 (by decide)) (fun c20 => ?_)
      refine G_iload_n (pc := 23) dX10_doing_23 rfl rfl ?_
      refine S_iret (pc := 24) dX10_doing_24 rfl ?_
      exact h4 c9' e1 e2 S1 g1 g2
    have hp := nr0_ok hi e1 e2
    have hpb := nr0_b hi e1 e2
    have h := h k rfl (by omega) e1 e2
    have sm : Sm S (upX S1 389 7 (nI (dgN S + 1))) := ⟨(upX_n (by omega)).trans (g1.1 389 0 (by omega)), fun a ha j => g1.2.1 a (by omega) j⟩
    skip
    refine G_istore_n (pc := 18) dX10_doing_18 rfl (by decide) rfl ?_
    refine G_iload_n (pc := 19) dX10_doing_19 rfl rfl ?_
    refine N_if_ge (pc := 20) (tgt := 25) dX10_doing_20 (by decide) (by omega) ?_
    refine G_aload_n (pc := 25) dX10_doing_25 rfl rfl ?_
    refine G_dup (pc := 26) dX10_doing_26 rfl ?_
    refine S_getI (pc := 27) dX10_doing_27 fX10_278 rfl (by first | rfl | assumption) rfl ?_
    rw [(g1.1 389 7 (by omega)).trans hg.1.1]
    refine G_iconst (pc := 30) (v := nI 1) dX10_doing_30 (by decide) ?_
    refine N_iadd (pc := 31) dX10_doing_31 ?_
    refine S_putI (pc := 32) dX10_doing_32 fX10_278 (by decide) rfl (by first | rfl | assumption) rfl ?_
    refine G_iload_n (pc := 35) dX10_doing_35 rfl rfl ?_
    refine G_istore_n (pc := 36) dX10_doing_36 rfl (by decide) rfl ?_
    refine G_iconst (pc := 37) (v := nI 0) dX10_doing_37 (by decide) ?_
    refine G_istore (pc := 38) dX10_doing_38 (by decide) rfl ?_
    refine G_iconst (pc := 40) (v := nI 0) dX10_doing_40 (by decide) ?_
    refine G_istore (pc := 41) dX10_doing_41 (by decide) rfl ?_
    refine doing_lp (S0 := upX S1 389 7 (nI (dgN S + 1))) (n := k) (dg := dgN S + 1) (ps := nr0 S) (MIa_m sm hi.1) (MIb_m sm hi.2.1) hp hpb (by omega) (thN S) 0 _ _ _ (by rw [thN_m sm]; omega) Fr.rf upX_s (NeIs0 g3 e2) (fun u hu => ⟨fun z => by omega, fun _ => ⟨rfl, rfl, rfl, fun _ _ => rfl⟩⟩) (fun S' k1 k2 => ?_)
    rw [thN_m sm] at k2 ⊢
    rw [dnC_m sm]
    refine h S' ⟨fun a j q => ?_, fun a q j => ?_, ?_⟩ (MIe_k g2 ?_ (fun a ha i => k1.2.1 a (by omega) i)) ?_ (DgIs_m sm k2)
    · rw [k1.1 a j (by omega), upX_n (by omega), g1.1 a j (by omega)]
    · rw [k1.2.1 a (by omega) j]
      exact g1.2.1 a (by omega) j
    · rw [k1.2.2]
      exact g1.2.2
    · rw [k1.1 389 18 (by omega), upX_n (by omega)]
    · rw [k1.1 389 7 (by omega), upX_s]
  · skip
    rw [decide_eq_false_iff_not, Int32.toInt_toInt64, z1, z12] at c9
    refine G_iconst (pc := 12) (v := (-1)) dX10_doing_12 (by decide) ?_
    refine S_iret (pc := 13) dX10_doing_13 rfl ?_
    exact hbad c9
end M37
