/-! bits; the model: findShown, standsAt -/
theorem orN {a k : Nat} (c : Nat) (h : a < 2 ^ k) : nI a ||| nI (c * 2 ^ k) = nI (a + c * 2 ^ k) := by
  apply Int32.toBitVec_inj.1
  show BitVec.ofNat 32 a ||| BitVec.ofNat 32 (c * 2 ^ k) = BitVec.ofNat 32 (a + c * 2 ^ k)
  rw [← BitVec.ofNat_or]
  congr 1
  rw [Nat.or_comm, Nat.mul_comm c, ← Nat.two_pow_add_eq_or_of_lt h]
  omega
theorem sh_and : ∀ t : Nat, t < 32 → nI t &&& 31 = nI t := by decide
theorem sh_smod : ∀ t : Nat, t < 32 → ((nI t).toBitVec.smod 32).toNat = t := by decide
theorem shrN {n t : Nat} (hn : n < 2147483648) (ht : t < 32) : nI n >>> (nI t &&& 31) = nI (n / 2 ^ t) := by
  rw [sh_and t ht]
  exact pk_shrN hn (nI t) t (sh_smod t ht)
theorem shlN {n t : Nat} (ht : t < 32) (h : n * 2 ^ t < 4294967296) : nI n <<< (nI t &&& 31) = nI (n * 2 ^ t) := by
  rw [sh_and t ht]
  exact pk_shlN (nI t) t (sh_smod t ht) h
theorem and1 (n : Nat) : nI n &&& nI 1 = nI (n % 2) := by
  apply Int32.toBitVec_inj.1
  show BitVec.ofNat 32 n &&& BitVec.ofNat 32 1 = BitVec.ofNat 32 (n % 2)
  rw [← BitVec.ofNat_and]
  congr 1
  exact Nat.and_two_pow_sub_one_eq_mod n 1
theorem and15 (n : Nat) : nI n &&& nI 15 = nI (n % 16) := by
  apply Int32.toBitVec_inj.1
  show BitVec.ofNat 32 n &&& BitVec.ofNat 32 15 = BitVec.ofNat 32 (n % 16)
  rw [← BitVec.ofNat_and]
  congr 1
  exact Nat.and_two_pow_sub_one_eq_mod n 4
/-- the four bits k of a number -/
def nib (n k : Nat) : Nat := n / 2 ^ (4 * k) % 16
theorem nib_lt (n k : Nat) : nib n k < 16 := Nat.mod_lt _ (by decide)
theorem nibE {n k : Nat} (hn : n < 2147483648) (hk : k < 4) : (nI n >>> (nI (4 * k) &&& 31)) &&& nI 15 = nI (nib n k) := by
  rw [shrN hn (by omega), and15]
  rfl
theorem p16_s (k : Nat) : 2 ^ (4 * (k + 1)) = 16 * 2 ^ (4 * k) := by
  rw [show 4 * (k + 1) = 4 * k + 4 by omega, Nat.pow_add]
  omega
theorem p16_le {k : Nat} (h : k ≤ 3) : 2 ^ (4 * k) ≤ 4096 := by
  rcases (show k = 0 ∨ k = 1 ∨ k = 2 ∨ k = 3 by omega) with rfl | rfl | rfl | rfl <;> decide
theorem p16_lt {a x k : Nat} (ha : a < 2 ^ (4 * k)) (hx : x ≤ 15) : a + x * 2 ^ (4 * k) < 2 ^ (4 * (k + 1)) := by
  rw [p16_s]
  have := Nat.mul_le_mul_right (2 ^ (4 * k)) hx
  omega
/-- the things that are shown, but those of the bits 'but' -/
def shF (S : ST) (but : Nat) : Nat → Nat → List Nat
  | 0, _ => []
  | d + 1, t => if stN S t = 1 ∧ but / 2 ^ t % 2 = 0 then t :: shF S but d (t + 1) else shF S but d (t + 1)
def shL (S : ST) (but : Nat) : List Nat := shF S but (thN S) 0
/-- the model's list of shown things -/
def ShIs (S : ST) (ts : List Nat) : Prop := S.1 389 13 = nI ts.length ∧ ∀ k, k < ts.length → S.2.1 398 k = nI (ts.getD k 0)
abbrev hX (a j : Nat) : Prop := a = 389 ∧ j = 13
abbrev hA (a : Nat) : Prop := a = 398
theorem ShIs.push {S : ST} {l : List Nat} {x : Nat} (h : ShIs S l) : ShIs (upX (upI S 398 l.length (nI x)) 389 13 (nI (l.length + 1))) (l ++ [x]) := by
  refine ⟨by rw [upX_s]; simp, fun i hi => ?_⟩
  show (upI S 398 l.length (nI x)).2.1 398 i = _
  by_cases h1 : i = l.length
  · subst h1
    rw [upI_s]
    simp
  · rw [upI_n (fun q => h1 q.2)]
    simp only [List.length_append, List.length_cons, List.length_nil] at hi
    rw [h.2 i (by omega), List.getD_eq_getElem?_getD, List.getD_eq_getElem?_getD, List.getElem?_append_left (by omega)]
section M16
variable {sc : SC} {S : ST} {Q : Option AV → HM → Prop}
theorem shF_eq {S S' : ST} {but : Nat} (h : ∀ i, S'.2.1 392 i = S.2.1 392 i) : ∀ d t, shF S' but d t = shF S but d t
  | 0, _ => rfl
  | d + 1, t => by
    unfold shF stN
    rw [h t, shF_eq h d (t + 1)]
set_option maxRecDepth 100000 in
set_option maxHeartbeats 4000000 in
theorem findShown_lp {but n : Nat} (hb : but < 4096) (hn : n ≤ 12) :
    ∀ (d t : Nat) (S : ST) (l : List Nat), t + d = n → S.1 389 0 = nI n → (∀ u, u < n → S.2.1 392 u = nI (stN S u)) → ShIs S l → l.length + (shF S but d t).length ≤ 4 → (∀ S', Fr hX hA S S' → ShIs S' (l ++ shF S but d t) → Q none (mk S')) →
      G sc mX10_findShown 7 [some (aR 389), some (aI (nI but)), some (aI (nI t))] [] (mk S) Q := by
  intro d
  induction d with
  | zero =>
    intro t S l ht hth hst hl _ h
    refine G_iload_n (pc := 7) dX10_findShown_7 rfl rfl ?_
    refine G_aload_n (pc := 8) dX10_findShown_8 rfl rfl ?_
    refine S_getI (pc := 9) dX10_findShown_9 fX10_80 rfl (by first | rfl | assumption) rfl ?_
    rw [hth]
    refine N_icmp_ge (pc := 12) (tgt := 59) dX10_findShown_12 (by decide) (by omega) (fun c12 => ?_) (fun c12 => absurd c12 (by omega))
    refine S_vret (pc := 59) dX10_findShown_59 rfl ?_
    exact h S Fr.rf (by rw [show l ++ shF S but 0 t = l by simp [shF]]; exact hl)
  | succ d ih =>
    intro t S l ht hth hst hl hlen h
    have hs := hst t (by omega)
    have e0 : shF S but (d + 1) t = if stN S t = 1 ∧ but / 2 ^ t % 2 = 0 then t :: shF S but d (t + 1) else shF S but d (t + 1) := rfl
    have hst3 : stN S t < 2147483648 := Int32.toNatClampNeg_lt _
    refine G_iload_n (pc := 7) dX10_findShown_7 rfl rfl ?_
    refine G_aload_n (pc := 8) dX10_findShown_8 rfl rfl ?_
    refine S_getI (pc := 9) dX10_findShown_9 fX10_80 rfl (by first | rfl | assumption) rfl ?_
    rw [hth]
    refine N_icmp_ge (pc := 12) (tgt := 59) dX10_findShown_12 (by decide) (by omega) (fun c12 => absurd c12 (by omega)) (fun c12 => ?_)
    refine G_aload_n (pc := 15) dX10_findShown_15 rfl rfl ?_
    refine S_getR (pc := 16) (b := 392) dX10_findShown_16 fX10_16 rfl rfl (by first | rfl | assumption) rfl rfl ?_
    refine G_iload_n (pc := 19) dX10_findShown_19 rfl rfl ?_
    refine N_iald (pc := 20) dX10_findShown_20 (by first | rfl | assumption) (by first | rfl | assumption) (by omega) ?_
    rw [hs]
    refine G_iconst (pc := 21) (v := nI 1) dX10_findShown_21 (by decide) ?_
    refine N_icmp_ne (pc := 22) (tgt := 53) dX10_findShown_22 (by decide) (by omega) (fun c22 => ?_) (fun c22 => ?_)
    · skip
      rw [if_neg (by omega)] at e0
      rw [e0] at h hlen
      refine N_iinc (pc := 53) dX10_findShown_53 rfl (by decide) rfl ?_
      refine G_goto (pc := 56) (tgt := 7) dX10_findShown_56 (by decide) ?_
      first
      | exact ih (t + 1) S l (by omega) hth hst hl hlen h
      | exact ih (t + 1) (upX (upI S 398 l.length (nI t)) 389 13 (nI (l.length + 1))) (l ++ [t]) (by omega) ((upX_n (by omega)).trans hth) hst hl.push (by rw [e1]; simp; omega) (fun S' g1 g2 => h S' (Fr.tr (Fr.tr (Fr.upI rfl) (Fr.upX ⟨rfl, rfl⟩)) g1) (by rw [e1, List.append_assoc] at g2; exact g2))
    · skip
      refine G_iload_n (pc := 25) dX10_findShown_25 rfl rfl ?_
      refine G_iload_n (pc := 26) dX10_findShown_26 rfl rfl ?_
      refine G_ishr (pc := 27) dX10_findShown_27 ?_
      refine G_iconst (pc := 28) (v := nI 1) dX10_findShown_28 (by decide) ?_
      refine G_iand (pc := 29) dX10_findShown_29 ?_
      rw [shrN (by omega) (by omega), and1]
      refine N_if_ne (pc := 30) (tgt := 53) dX10_findShown_30 (by decide) (by omega) (fun c30 => ?_) (fun c30 => ?_)
      · skip
        rw [if_neg (by omega)] at e0
        rw [e0] at h hlen
        refine N_iinc (pc := 53) dX10_findShown_53 rfl (by decide) rfl ?_
        refine G_goto (pc := 56) (tgt := 7) dX10_findShown_56 (by decide) ?_
        first
        | exact ih (t + 1) S l (by omega) hth hst hl hlen h
        | exact ih (t + 1) (upX (upI S 398 l.length (nI t)) 389 13 (nI (l.length + 1))) (l ++ [t]) (by omega) ((upX_n (by omega)).trans hth) hst hl.push (by rw [e1]; simp; omega) (fun S' g1 g2 => h S' (Fr.tr (Fr.tr (Fr.upI rfl) (Fr.upX ⟨rfl, rfl⟩)) g1) (by rw [e1, List.append_assoc] at g2; exact g2))
      · skip
        rw [if_pos ⟨c22, c30⟩] at e0
        rw [e0] at h hlen
        have hlen2 : l.length + ((shF S but d (t + 1)).length + 1) ≤ 4 := hlen
        have e1 : ∀ a b, shF (upX (upI S 398 l.length (nI t)) 389 13 (nI (l.length + 1))) but a b = shF S but a b := shF_eq (fun i => show (upI S 398 l.length (nI t)).2.1 392 i = S.2.1 392 i from upI_n (by omega))
        refine G_aload_n (pc := 33) dX10_findShown_33 rfl rfl ?_
        refine S_getR (pc := 34) (b := 398) dX10_findShown_34 fX10_34 rfl rfl (by first | rfl | assumption) rfl rfl ?_
        refine G_aload_n (pc := 37) dX10_findShown_37 rfl rfl ?_
        refine S_getI (pc := 38) dX10_findShown_38 fX10_164 rfl (by first | rfl | assumption) rfl ?_
        rw [hl.1]
        refine G_iload_n (pc := 41) dX10_findShown_41 rfl rfl ?_
        refine N_iast (pc := 42) dX10_findShown_42 (by first | rfl | assumption) (by first | rfl | assumption) (by omega) ?_
        refine G_aload_n (pc := 43) dX10_findShown_43 rfl rfl ?_
        refine G_dup (pc := 44) dX10_findShown_44 rfl ?_
        refine S_getI (pc := 45) dX10_findShown_45 fX10_164 rfl (by first | rfl | assumption) rfl ?_
        rw [show (upI S 398 l.length (nI t)).1 389 13 = nI l.length from hl.1]
        refine G_iconst (pc := 48) (v := nI 1) dX10_findShown_48 (by decide) ?_
        refine N_iadd (pc := 49) dX10_findShown_49 ?_
        refine S_putI (pc := 50) dX10_findShown_50 fX10_164 (by decide) rfl (by first | rfl | assumption) rfl ?_
        refine N_iinc (pc := 53) dX10_findShown_53 rfl (by decide) rfl ?_
        refine G_goto (pc := 56) (tgt := 7) dX10_findShown_56 (by decide) ?_
        first
        | exact ih (t + 1) S l (by omega) hth hst hl hlen h
        | exact ih (t + 1) (upX (upI S 398 l.length (nI t)) 389 13 (nI (l.length + 1))) (l ++ [t]) (by omega) ((upX_n (by omega)).trans hth) hst hl.push (by rw [e1]; simp; omega) (fun S' g1 g2 => h S' (Fr.tr (Fr.tr (Fr.upI rfl) (Fr.upX ⟨rfl, rfl⟩)) g1) (by rw [e1, List.append_assoc] at g2; exact g2))
set_option maxRecDepth 100000 in
set_option maxHeartbeats 4000000 in
theorem sX10_findShown {but : Nat} (ha : MIa S) (hb : MIb S) (hbut : but < 4096) (h4 : (shL S but).length ≤ 4) (h : ∀ S', Fr hX hA S S' → ShIs S' (shL S but) → Q none (mk S')) : CT sc mX10_findShown [aR 389, aI (nI but)] (mk S) Q := by
  refine S_of (by decide) rfl ?_
  show G sc mX10_findShown 0 [some (aR 389), some (aI (nI but)), none] [] (mk S) Q
  have F0 : Fr hX hA S (upX S 389 13 (nI 0)) := Fr.upX ⟨rfl, rfl⟩
  have e1 : ∀ a b, shF (upX S 389 13 (nI 0)) but a b = shF S but a b := shF_eq (fun i => rfl)
  refine G_aload_n (pc := 0) dX10_findShown_0 rfl rfl ?_
  refine G_iconst (pc := 1) (v := nI 0) dX10_findShown_1 (by decide) ?_
  refine S_putI (pc := 2) dX10_findShown_2 fX10_164 (by decide) rfl (by first | rfl | assumption) rfl ?_
  refine G_iconst (pc := 5) (v := nI 0) dX10_findShown_5 (by decide) ?_
  refine G_istore_n (pc := 6) dX10_findShown_6 rfl (by decide) rfl ?_
  refine findShown_lp hbut ha.1.2 (thN S) 0 (upX S 389 13 (nI 0)) [] (by omega) ((upX_n (by omega)).trans ha.1.1) (fun u hu => (hb u hu).1.1) ⟨by rw [upX_s]; rfl, fun k hk => by simp at hk⟩ (by rw [e1]; simp; exact h4) (fun S' g1 g2 => h S' (F0.tr g1) (by rw [e1] at g2; exact g2))
end M16
