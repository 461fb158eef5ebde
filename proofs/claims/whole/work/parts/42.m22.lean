/-! the model: findPieces -/
abbrev pX (a j : Nat) : Prop := a = 389 ∧ (j = 12 ∨ j = 15 ∨ j = 18)
abbrev pA (a : Nat) : Prop := a = 397 ∨ (399 ≤ a ∧ a ≤ 403)
theorem oF {S S' : ST} (h : Fr oX oA S S') : Fr pX pA S S' := h.mono (fun a j q => ⟨q.1, Or.inl q.2⟩) (fun a q => Or.inl q)
theorem fF {S S' : ST} (h : Fr fX fA S S') : Fr pX pA S S' := h.mono (fun a j q => ⟨q.1, Or.inr (Or.inl q.2)⟩) (fun a q => Or.inr (by rcases q with q | q <;> omega))
theorem bF {S S' : ST} (h : Fr bX bA S S') : Fr pX pA S S' := h.mono (fun a j q => ⟨q.1, Or.inr (Or.inr q.2)⟩) (fun a q => Or.inr (by rcases q with q | q | q <;> omega))
theorem longG_eq {S S' : ST} (h : Fr pX pA S S') (p : Nat) (bh : Bool) : ∀ (r : List Nat) (k acc : Nat), longG S' p bh r k acc = longG S p bh r k acc
  | [], _, _ => rfl
  | t :: r, k, acc => by
    have e1 : lnB S' t = lnB S t := by funext j; exact h.2.1 390 (by omega) _
    have e2 : enB S' t = enB S t := by funext j; exact h.2.1 393 (by omega) _
    have e3 : szN S' t = szN S t := by unfold szN; rw [h.2.1 391 (by omega)]
    have e4 : esN S' t = esN S t := by unfold esN; rw [h.2.1 394 (by omega)]
    unfold longG
    rw [e1, e2, e3, e4]
    split
    · rfl
    · rw [longG_eq h p bh r]
theorem typN_eq {S S' : ST} (h : Fr pX pA S S') (t f : Nat) : ∀ (d i acc : Nat), typN S' t f d i acc = typN S t f d i acc
  | 0, _, _ => rfl
  | d + 1, i, acc => by
    have e2 : enB S' t (f + i) = enB S t (f + i) := h.2.1 393 (by omega) _
    unfold typN
    rw [e2, typN_eq h t f d]
theorem typG_eq {S S' : ST} (h : Fr pX pA S S') (n q : Nat) : ∀ (r : List Nat) (k f : Nat), typG S' n q r k f = typG S n q r k f
  | [], _, _ => rfl
  | t :: r, k, f => by
    have e4 : esN S' t = esN S t := by unfold esN; rw [h.2.1 394 (by omega)]
    unfold typG
    rw [e4, typN_eq h, typG_eq h n q r]
theorem TsOk_eq {S S' : ST} (h : Fr pX pA S S') {ts : List Nat} (ht : TsOk S ts) : TsOk S' ts := by
  refine ⟨ht.1, fun t q => ?_⟩
  have e := ht.2 t q
  simp only [szN, esN, h.2.1 391 (by omega), h.2.1 394 (by omega)] at e ⊢
  exact e
theorem ShIs_eq {S S' : ST} (h : Fr pX pA S S') {ts : List Nat} (ht : ShIs S ts) : ShIs S' ts := ⟨(h.1 389 13 (by omega)).trans ht.1, fun k hk => (h.2.1 398 (by omega) k).trans (ht.2 k hk)⟩
def EnBy (S : ST) (ts : List Nat) : Prop := ∀ t ∈ ts, ∀ j, j < esN S t → isBy (enB S t j)
theorem EnBy_eq {S S' : ST} (h : Fr pX pA S S') {ts : List Nat} (ht : EnBy S ts) : EnBy S' ts := by
  intro t q j hj
  have e4 : esN S' t = esN S t := by unfold esN; rw [h.2.1 394 (by omega)]
  have e2 : enB S' t j = enB S t j := h.2.1 393 (by omega) _
  rw [e4] at hj
  rw [e2]
  exact ht t q j hj
theorem longG_lt {S : ST} {p : Nat} {bh : Bool} : ∀ (r : List Nat) (k acc L : Nat), (∀ t ∈ r, esN S t ≤ 12) → acc < 2 ^ (4 * k) → longG S p bh r k acc = some L → L < 2 ^ (4 * (k + r.length))
  | [], k, acc, L, _, h, e => by cases e; exact h
  | t :: r, k, acc, L, ht, h, e => by
    rcases ho : pcL (lnB S t) (szN S t) p with _ | o
    · rw [longG_n ho] at e; cases e
    · cases hs : stB (enB S t) (esN S t) o (if bh = true then (esN S t : Int) - o.length else 0) with
      | false => rw [longG_f ho rfl hs] at e; cases e
      | true =>
        rw [longG_t ho rfl hs] at e
        have h2 := stB_len hs
        have h3 := ht t List.mem_cons_self
        have := longG_lt r (k + 1) _ L (fun u hu => ht u (List.mem_cons_of_mem _ hu)) (p16_lt h (show o.length ≤ 15 by split at h2 <;> omega)) e
        rw [show k + (t :: r).length = k + 1 + r.length by simp; omega]
        exact this
theorem p16_4 {k : Nat} (h : k ≤ 4) : 2 ^ (4 * k) ≤ 65536 := by
  rcases (show k = 0 ∨ k = 1 ∨ k = 2 ∨ k = 3 ∨ k = 4 by omega) with rfl | rfl | rfl | rfl | rfl <;> decide
theorem longF_lt {S : ST} {ts : List Nat} {p L : Nat} {bh : Bool} (ht : TsOk S ts) (h : longF S ts p bh = some L) : L < 65536 := by
  have h1 := longG_lt ts 0 0 L (fun t q => (ht.2 t q).2.2.2.2.2) (by decide) h
  have h2 := p16_4 (show 0 + ts.length ≤ 4 by have := ht.1; omega)
  omega
def oApp (F : List (Nat × Nat)) (p : Nat) (o : Option Nat) : List (Nat × Nat) := match o with
  | some L => F ++ [(p, L)]
  | none => F
theorem oApp_len {F : List (Nat × Nat)} {p : Nat} {o : Option Nat} : (oApp F p o).length ≤ F.length + 1 := by
  unfold oApp
  split
  · simp
  · omega
/-- the pieces that begin all ends (bh: that close them): the first c cuts -/
def pcF (S : ST) (ts : List Nat) (bh : Bool) : Nat → List (Nat × Nat)
  | 0 => []
  | c + 1 => oApp (pcF S ts bh c) c (longF S ts c bh)
theorem pcF_len (S : ST) (ts : List Nat) (bh : Bool) : ∀ c, (pcF S ts bh c).length ≤ c
  | 0 => Nat.le_refl _
  | c + 1 => by
    have h1 := pcF_len S ts bh c
    have h2 := @oApp_len (pcF S ts bh c) c (longF S ts c bh)
    show (oApp _ _ _).length ≤ _
    omega
section M22
variable {sc : SC} {S : ST} {Q : Option AV → HM → Prop}
set_option maxRecDepth 100000 in
set_option maxHeartbeats 4000000 in
theorem nF {F : List (Nat × Nat)} {p : Nat} {o : Option Nat} (hF : FrIs S F) (hl : F.length < 4803) (ho : ∀ L, o = some L → L < 65536) (h : ∀ S', Fr fX fA S S' → FrIs S' (oApp F p o) → Q none (mk S')) : CT sc mX10_noteFront [aR 389, aI (nI p), aI (oI o)] (mk S) Q := by
  cases o with
  | none => exact noteFront_no (by decide) (h S Fr.rf hF)
  | some L => exact noteFront_yes hF hl (ho L rfl) h
theorem nB {B : List (Nat × Nat)} {p : Nat} {o : Option Nat} (hB : BhL S B) (hC : BhC S B) (hl : B.length < 4803) (ho : ∀ L, o = some L → L < 65536) (h : ∀ S', Fr bX bA S S' → BhL S' (oApp B p o) → BhC S' (oApp B p o) → Q none (mk S')) : CT sc mX10_noteBehind [aR 389, aI (nI p), aI (oI o)] (mk S) Q := by
  cases o with
  | none => exact noteBehind_no (by decide) (h S Fr.rf hB hC)
  | some L => exact noteBehind_yes hB hC hl (ho L rfl) h
theorem FrIs_k {S S' : ST} {F : List (Nat × Nat)} (h : FrIs S F) (h1 : S'.1 389 15 = S.1 389 15) (h2 : ∀ i, S'.2.1 399 i = S.2.1 399 i) (h3 : ∀ i, S'.2.1 400 i = S.2.1 400 i) : FrIs S' F := ⟨h1.trans h.1, fun i hi => ⟨(h2 i).trans (h.2 i hi).1, (h3 i).trans (h.2 i hi).2⟩⟩
theorem BhL_k {S S' : ST} {B : List (Nat × Nat)} (h : BhL S B) (h1 : S'.1 389 18 = S.1 389 18) (h2 : ∀ i, S'.2.1 401 i = S.2.1 401 i) (h3 : ∀ i, S'.2.1 402 i = S.2.1 402 i) : BhL S' B := ⟨h1.trans h.1, fun i hi => ⟨(h2 i).trans (h.2 i hi).1, (h3 i).trans (h.2 i hi).2⟩⟩
theorem BhC_k {S S' : ST} {B : List (Nat × Nat)} (h : BhC S B) (h2 : ∀ i, S'.2.1 403 i = S.2.1 403 i) : BhC S' B := fun x hx => (h2 x).trans (h x hx)
set_option maxRecDepth 100000 in
set_option maxHeartbeats 4000000 in
theorem findPieces_lp2 {S0 : ST} {ts : List Nat} {o2 o3 o4 o5 o6 : Option AV} (hts : TsOk S0 ts) (hsh : ShIs S0 ts) :
    ∀ (d c : Nat) (S : ST), c + d = 4800 → Fr pX pA S0 S → FrIs S (pcF S0 ts false c) → BhL S (pcF S0 ts true c) → BhC S (pcF S0 ts true c) →
      (∀ S', Fr pX pA S0 S' → FrIs S' (pcF S0 ts false 4800) → BhL S' (pcF S0 ts true 4800) → BhC S' (pcF S0 ts true 4800) → G sc mX10_findPieces 75 [some (aR 389), some (aI (nI 4800)), o2, o3, o4, o5, o6] [] (mk S') Q) →
      G sc mX10_findPieces 40 [some (aR 389), some (aI (nI c)), o2, o3, o4, o5, o6] [] (mk S) Q := by
  intro d
  induction d with
  | zero =>
    intro c S hc hF h1 h2 h3 h
    have e : c = 4800 := by omega
    subst e
    refine G_iload_n (pc := 40) dX10_findPieces_40 rfl rfl ?_
    refine G_sipush (pc := 41) (v := nI 4800) dX10_findPieces_41 (by decide) ?_
    refine N_icmp_ge (pc := 44) (tgt := 75) dX10_findPieces_44 (by decide) (by omega) (fun c44 => ?_) (fun c44 => absurd c44 (by omega))
    exact h S hF h1 h2 h3
  | succ d ih =>
    intro c S hc hF h1 h2 h3 h
    have hl1 := pcF_len S0 ts false c
    have hl2 := pcF_len S0 ts true c
    have hpc : isPc c := Or.inl (by omega)
    refine G_iload_n (pc := 40) dX10_findPieces_40 rfl rfl ?_
    refine G_sipush (pc := 41) (v := nI 4800) dX10_findPieces_41 (by decide) ?_
    refine N_icmp_ge (pc := 44) (tgt := 75) dX10_findPieces_44 (by decide) (by omega) (fun c44 => absurd c44 (by omega)) (fun c44 => ?_)
    refine G_aload_n (pc := 47) dX10_findPieces_47 rfl rfl ?_
    refine G_iload_n (pc := 48) dX10_findPieces_48 rfl rfl ?_
    refine G_aload_n (pc := 49) dX10_findPieces_49 rfl rfl ?_
    refine G_iload_n (pc := 50) dX10_findPieces_50 rfl rfl ?_
    refine G_iconst (pc := 51) (v := nI 0) dX10_findPieces_51 (by decide) ?_
    refine S_callV (av := [_, _]) (pc := 52) (z := mX10_longOf) (ci := 9) dX10_findPieces_52 zX10_longOf lX10_findPieces_181 rfl (by first | rfl | assumption) rfl rfl (sX10_longOf (ts := ts) (bh := false) hpc (TsOk_eq hF hts) (ShIs_eq hF hsh) (fun S1 g1 => ⟨_, rfl, ?_⟩))
    rw [show longF S ts c false = longF S0 ts c false from longG_eq hF c false ts 0 0]
    refine S_callV (av := [_, _]) (pc := 55) (z := mX10_noteFront) (ci := 9) dX10_findPieces_55 zX10_noteFront lX10_findPieces_185 rfl (by first | rfl | assumption) rfl rfl (nF (F := pcF S0 ts false c) (FrIs_k h1 (g1.1 389 15 (by omega)) (g1.2.1 399 (by omega)) (g1.2.1 400 (by omega))) (by omega) (fun L q => longF_lt hts q) (fun S2 g2 f2 => ⟨_, rfl, ?_⟩))
    have hF2 : Fr pX pA S0 S2 := (hF.tr (oF g1)).tr (fF g2)
    refine G_aload_n (pc := 58) dX10_findPieces_58 rfl rfl ?_
    refine G_iload_n (pc := 59) dX10_findPieces_59 rfl rfl ?_
    refine G_aload_n (pc := 60) dX10_findPieces_60 rfl rfl ?_
    refine G_iload_n (pc := 61) dX10_findPieces_61 rfl rfl ?_
    refine G_iconst (pc := 62) (v := nI 1) dX10_findPieces_62 (by decide) ?_
    refine S_callV (av := [_, _]) (pc := 63) (z := mX10_longOf) (ci := 9) dX10_findPieces_63 zX10_longOf lX10_findPieces_181 rfl (by first | rfl | assumption) rfl rfl (sX10_longOf (ts := ts) (bh := true) hpc (TsOk_eq hF2 hts) (ShIs_eq hF2 hsh) (fun S3 g3 => ⟨_, rfl, ?_⟩))
    rw [show longF S2 ts c true = longF S0 ts c true from longG_eq hF2 c true ts 0 0]
    have k1 : BhL S3 (pcF S0 ts true c) := BhL_k h2 ((g3.1 389 18 (by omega)).trans ((g2.1 389 18 (by omega)).trans (g1.1 389 18 (by omega)))) (fun i => (g3.2.1 401 (by omega) i).trans ((g2.2.1 401 (by omega) i).trans (g1.2.1 401 (by omega) i))) (fun i => (g3.2.1 402 (by omega) i).trans ((g2.2.1 402 (by omega) i).trans (g1.2.1 402 (by omega) i)))
    have k2 : BhC S3 (pcF S0 ts true c) := BhC_k h3 (fun i => (g3.2.1 403 (by omega) i).trans ((g2.2.1 403 (by omega) i).trans (g1.2.1 403 (by omega) i)))
    refine S_callV (av := [_, _]) (pc := 66) (z := mX10_noteBehind) (ci := 9) dX10_findPieces_66 zX10_noteBehind lX10_findPieces_189 rfl (by first | rfl | assumption) rfl rfl (nB (B := pcF S0 ts true c) k1 k2 (by omega) (fun L q => longF_lt hts q) (fun S4 g4 b4 c4 => ⟨_, rfl, ?_⟩))
    have f4 : FrIs S4 (pcF S0 ts false (c + 1)) := FrIs_k f2 ((g4.1 389 15 (by omega)).trans (g3.1 389 15 (by omega))) (fun i => (g4.2.1 399 (by omega) i).trans (g3.2.1 399 (by omega) i)) (fun i => (g4.2.1 400 (by omega) i).trans (g3.2.1 400 (by omega) i))
    refine N_iinc (pc := 69) dX10_findPieces_69 rfl (by decide) rfl ?_
    refine G_goto (pc := 72) (tgt := 40) dX10_findPieces_72 (by decide) ?_
    exact ih (c + 1) S4 (by omega) ((hF2.tr (oF g3)).tr (bF g4)) f4 b4 c4 h
end M22
