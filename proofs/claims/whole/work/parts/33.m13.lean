/-! the model: programs in rows: runRow, toldOf, addKept, isKept, kept, run -/
def PrIs (S : ST) (a b : Nat) (ps : List Nat) : Prop := ps.length ≤ 3 ∧ (∀ i, i < ps.length → S.2.1 a (b + i) = nI (ps.getD i 0)) ∧ ∀ i, ps.length ≤ i → i < 3 → S.2.1 a (b + i) = -1
/-- pieces, and what they make has room -/
def okL : Nat → List Nat → Prop
  | _, [] => True
  | m, p :: r => m ≤ 20 ∧ isPc p ∧ okL (m + (if 16777216 ≤ p then 3 else 16)) r
def runP (b : Nat → Int32) (n : Nat) : List Nat → Option (List Int32)
  | [] => some []
  | p :: r => match pcL b n p with
    | some l => (runP b n r).map (fun q => l ++ q)
    | none => none
theorem pc_len {b : Nat → Int32} {n p : Nat} {q : List Int32} (hp : isPc p) (hn : n ≤ 16) (h : pcL b n p = some q) : q.length ≤ (if 16777216 ≤ p then 3 else 16) := by
  rcases hp with h1 | h1
  · rw [if_neg (by omega)]
    exact (cut_len h1 hn h).2
  · rw [if_pos h1.1]
    rw [pcL_typ h1.1] at h
    cases h
    rw [typF_len]
    omega
theorem isPc_lt {p : Nat} (h : isPc p) : p < 67108864 := by rcases h with h | h <;> omega
section M13
variable {sc : SC} {S : ST} {Q : Option AV → HM → Prop}
set_option maxRecDepth 100000 in
set_option maxHeartbeats 4000000 in
theorem runRow_no {a b t k : Nat} {S : ST} (hk : k ≤ 3) (h : Q (some (aI (bI false))) (mk (upX S 389 12 (nI 0)))) : G sc mX10_runRow 11 [some (aR 389), some (aR a), some (aI (nI b)), some (aI (nI t)), some (aI (bI false)), some (aI (nI k))] [] (mk S) Q := by
  have K : G sc mX10_runRow 50 [some (aR 389), some (aR a), some (aI (nI b)), some (aI (nI t)), some (aI (bI false)), some (aI (nI k))] [] (mk S) Q := by
    refine G_aload_n (pc := 50) dX10_runRow_50 rfl rfl ?_
    refine G_iload (pc := 51) dX10_runRow_51 rfl ?_
    refine B_if_eq (pc := 53) (tgt := 63) dX10_runRow_53 (by decide) (fun c53 => ?_) (fun c53 => absurd c53 (by decide))
    refine G_iconst (pc := 63) (v := nI 0) dX10_runRow_63 (by decide) ?_
    refine S_putI (pc := 64) dX10_runRow_64 fX10_150 (by decide) rfl (by first | rfl | assumption) rfl ?_
    refine G_iload (pc := 67) dX10_runRow_67 rfl ?_
    refine S_zret (pc := 69) dX10_runRow_69 rfl (bI_nar _) ?_
    exact h
  refine G_iload (pc := 11) dX10_runRow_11 rfl ?_
  refine G_iconst (pc := 13) (v := nI 3) dX10_runRow_13 (by decide) ?_
  refine N_icmp_ge (pc := 14) (tgt := 50) dX10_runRow_14 (by decide) (by omega) (fun c14 => ?_) (fun c14 => ?_)
  · skip
    exact K
  · skip
    refine G_iload (pc := 17) dX10_runRow_17 rfl ?_
    refine B_if_eq (pc := 19) (tgt := 50) dX10_runRow_19 (by decide) (fun c19 => ?_) (fun c19 => absurd c19 (by decide))
    exact K
set_option maxRecDepth 100000 in
set_option maxHeartbeats 4000000 in
theorem runRow_lp {a b t n z : Nat} (ht : t < 12) (hn : n ≤ 16) (hka : kd a = (10, z)) (hz : Nat.ble z 65536 = true) (hb : b + 3 ≤ z) (hao : ¬ a = 397) :
    ∀ (ps : List Nat) (k m : Nat) (S : ST) (l : List Int32), k + ps.length ≤ 3 → S.2.1 391 t = nI n → (∀ i, i < ps.length → S.2.1 a (b + k + i) = nI (ps.getD i 0)) → (k + ps.length < 3 → S.2.1 a (b + k + ps.length) = -1) → okL m ps → l.length ≤ m → OutIs S l →
      (∀ S' q, runP (fun j => S.2.1 390 (16 * t + j)) n ps = some q → Fr oX oA S S' → OutIs S' (l ++ q) → Q (some (aI (bI true))) (mk S')) → (runP (fun j => S.2.1 390 (16 * t + j)) n ps = none → ∀ S', Fr oX oA S S' → OutIs S' [] → Q (some (aI (bI false))) (mk S')) →
      G sc mX10_runRow 11 [some (aR 389), some (aR a), some (aI (nI b)), some (aI (nI t)), some (aI (bI true)), some (aI (nI k))] [] (mk S) Q := by
  intro ps
  induction ps with
  | nil =>
    intro k m S l hk hsz _ hend _ hlm hl h1 _
    have hlen : k + 0 ≤ 3 := hk
    have K : G sc mX10_runRow 50 [some (aR 389), some (aR a), some (aI (nI b)), some (aI (nI t)), some (aI (bI true)), some (aI (nI k))] [] (mk S) Q := by
      refine G_aload_n (pc := 50) dX10_runRow_50 rfl rfl ?_
      refine G_iload (pc := 51) dX10_runRow_51 rfl ?_
      refine B_if_eq (pc := 53) (tgt := 63) dX10_runRow_53 (by decide) (fun c53 => absurd c53 (by decide)) (fun c53 => ?_)
      refine G_aload_n (pc := 56) dX10_runRow_56 rfl rfl ?_
      refine S_getI (pc := 57) dX10_runRow_57 fX10_150 rfl (by first | rfl | assumption) rfl ?_
      refine G_goto (pc := 60) (tgt := 64) dX10_runRow_60 (by decide) ?_
      refine S_putI (pc := 64) dX10_runRow_64 fX10_150 (by decide) rfl (by first | rfl | assumption) rfl ?_
      refine G_iload (pc := 67) dX10_runRow_67 rfl ?_
      refine S_zret (pc := 69) dX10_runRow_69 rfl (bI_nar _) ?_
      exact h1 (upX S 389 12 (S.1 389 12)) [] rfl (Fr.upX ⟨rfl, rfl⟩) ⟨by rw [upX_s, hl.1]; simp, fun i hi => by rw [List.append_nil] at hi ⊢; exact hl.2 i hi⟩
    refine G_iload (pc := 11) dX10_runRow_11 rfl ?_
    refine G_iconst (pc := 13) (v := nI 3) dX10_runRow_13 (by decide) ?_
    refine N_icmp_ge (pc := 14) (tgt := 50) dX10_runRow_14 (by decide) (by omega) (fun c14 => ?_) (fun c14 => ?_)
    · skip
      exact K
    · skip
      refine G_iload (pc := 17) dX10_runRow_17 rfl ?_
      refine B_if_eq (pc := 19) (tgt := 50) dX10_runRow_19 (by decide) (fun c19 => absurd c19 (by decide)) (fun c19 => ?_)
      refine G_aload_n (pc := 22) dX10_runRow_22 rfl rfl ?_
      refine G_iload_n (pc := 23) dX10_runRow_23 rfl rfl ?_
      refine G_iload (pc := 24) dX10_runRow_24 rfl ?_
      refine N_iadd (pc := 26) dX10_runRow_26 ?_
      refine N_iald (pc := 27) dX10_runRow_27 (by first | rfl | assumption) (by first | rfl | assumption) (by omega) ?_
      rw [show S.2.1 a (b + k) = -1 from hend (by show k + 0 < 3; omega)]
      refine T_if_lt (pc := 28) (tgt := 50) dX10_runRow_28 (by decide) (fun c28 => ?_) (fun c28 => absurd c28 (by decide))
      exact K
  | cons p ps ih =>
    intro k m S l hk hsz hps hend hok hlm hl h1 h0
    have hlen : k + (ps.length + 1) ≤ 3 := hk
    obtain ⟨hm, hp, hok2⟩ := hok
    have hp0 : S.2.1 a (b + k) = nI p := hps 0 (by simp)
    have hp2 := isPc_lt hp
    refine G_iload (pc := 11) dX10_runRow_11 rfl ?_
    refine G_iconst (pc := 13) (v := nI 3) dX10_runRow_13 (by decide) ?_
    refine N_icmp_ge (pc := 14) (tgt := 50) dX10_runRow_14 (by decide) (by omega) (fun c14 => absurd c14 (by omega)) (fun c14 => ?_)
    refine G_iload (pc := 17) dX10_runRow_17 rfl ?_
    refine B_if_eq (pc := 19) (tgt := 50) dX10_runRow_19 (by decide) (fun c19 => absurd c19 (by decide)) (fun c19 => ?_)
    refine G_aload_n (pc := 22) dX10_runRow_22 rfl rfl ?_
    refine G_iload_n (pc := 23) dX10_runRow_23 rfl rfl ?_
    refine G_iload (pc := 24) dX10_runRow_24 rfl ?_
    refine N_iadd (pc := 26) dX10_runRow_26 ?_
    refine N_iald (pc := 27) dX10_runRow_27 (by first | rfl | assumption) (by first | rfl | assumption) (by omega) ?_
    rw [hp0]
    refine N_if_lt (pc := 28) (tgt := 50) dX10_runRow_28 (by decide) (by omega) ?_
    refine G_aload_n (pc := 31) dX10_runRow_31 rfl rfl ?_
    refine G_iload_n (pc := 32) dX10_runRow_32 rfl rfl ?_
    refine G_aload_n (pc := 33) dX10_runRow_33 rfl rfl ?_
    refine G_iload_n (pc := 34) dX10_runRow_34 rfl rfl ?_
    refine G_iload (pc := 35) dX10_runRow_35 rfl ?_
    refine N_iadd (pc := 37) dX10_runRow_37 ?_
    refine N_iald (pc := 38) dX10_runRow_38 (by first | rfl | assumption) (by first | rfl | assumption) (by omega) ?_
    rw [hp0]
    refine S_callV (av := [_, _]) (pc := 39) (z := mX10_makePiece) (ci := 9) dX10_runRow_39 zX10_makePiece lX10_runRow_158 rfl (by first | rfl | assumption) rfl rfl (sX10_makePiece ht hsz hn hp hl (by omega) (fun S' q g1 g2 g3 => ⟨_, rfl, ?_⟩) (fun g1 => ⟨_, rfl, ?_⟩))
    · have ea : ∀ i, S'.2.1 a i = S.2.1 a i := g2.2.1 a hao
      have eb : ∀ i, S'.2.1 390 i = S.2.1 390 i := g2.2.1 390 (by decide)
      have es : S'.2.1 391 t = S.2.1 391 t := g2.2.1 391 (by decide) t
      have gl := pc_len hp hn g1
      refine G_istore (pc := 42) dX10_runRow_42 (by decide) rfl ?_
      refine N_iinc (pc := 44) dX10_runRow_44 rfl (by decide) rfl ?_
      refine G_goto (pc := 47) (tgt := 11) dX10_runRow_47 (by decide) ?_
      refine ih (k + 1) _ S' (l ++ q) (by omega) (es.trans hsz) (fun i hi => ?_) (fun hi => ?_) hok2 (by simp; omega) g3 (fun S2 q2 e1 e2 e3 => ?_) (fun e1 S2 e2 e3 => ?_)
      · rw [ea, show b + (k + 1) + i = b + k + (i + 1) by omega, hps (i + 1) (by simp; omega)]
        simp
      · rw [ea, show b + (k + 1) + ps.length = b + k + (p :: ps).length by simp; omega]
        exact hend (by simp; omega)
      · simp only [eb] at e1
        exact h1 S2 (q ++ q2) (by unfold runP; rw [g1]; simp only [e1]; rfl) (g2.tr e2) (by rw [← List.append_assoc]; exact e3)
      · simp only [eb] at e1
        exact h0 (by unfold runP; rw [g1]; simp only [e1]; rfl) S2 (g2.tr e2) e3
    skip
    refine G_istore (pc := 42) dX10_runRow_42 (by decide) rfl ?_
    refine N_iinc (pc := 44) dX10_runRow_44 rfl (by decide) rfl ?_
    refine G_goto (pc := 47) (tgt := 11) dX10_runRow_47 (by decide) ?_
    exact runRow_no (by omega) (h0 (by unfold runP; rw [g1]) _ (Fr.upX ⟨rfl, rfl⟩) RowIs.nil)
set_option maxRecDepth 100000 in
set_option maxHeartbeats 4000000 in
theorem sX10_runRow {a b t n z : Nat} {ps : List Nat} (ht : t < 12) (hsz : S.2.1 391 t = nI n) (hn : n ≤ 16) (hka : kd a = (10, z)) (hz : Nat.ble z 65536 = true) (hb : b + 3 ≤ z) (hao : ¬ a = 397) (hps : PrIs S a b ps) (hok : okL 0 ps)
    (h1 : ∀ S' q, runP (fun j => S.2.1 390 (16 * t + j)) n ps = some q → Fr oX oA S S' → OutIs S' q → Q (some (aI (bI true))) (mk S')) (h0 : runP (fun j => S.2.1 390 (16 * t + j)) n ps = none → ∀ S', Fr oX oA S S' → OutIs S' [] → Q (some (aI (bI false))) (mk S')) : CT sc mX10_runRow [aR 389, aR a, aI (nI b), aI (nI t)] (mk S) Q := by
  refine S_of (by decide) rfl ?_
  show G sc mX10_runRow 0 [some (aR 389), some (aR a), some (aI (nI b)), some (aI (nI t)), none, none] [] (mk S) Q
  have F0 : Fr oX oA S (upX S 389 12 (nI 0)) := Fr.upX ⟨rfl, rfl⟩
  obtain ⟨p1, p2, p3⟩ := hps
  refine G_aload_n (pc := 0) dX10_runRow_0 rfl rfl ?_
  refine G_iconst (pc := 1) (v := nI 0) dX10_runRow_1 (by decide) ?_
  refine S_putI (pc := 2) dX10_runRow_2 fX10_150 (by decide) rfl (by first | rfl | assumption) rfl ?_
  refine G_iconst (pc := 5) (v := nI 1) dX10_runRow_5 (by decide) ?_
  refine G_istore (pc := 6) dX10_runRow_6 (by decide) rfl ?_
  refine G_iconst (pc := 8) (v := nI 0) dX10_runRow_8 (by decide) ?_
  refine G_istore (pc := 9) dX10_runRow_9 (by decide) rfl ?_
  refine runRow_lp ht hn hka hz hb hao ps 0 0 (upX S 389 12 (nI 0)) [] (by omega) hsz (fun i hi => by rw [show b + 0 + i = b + i by omega]; exact p2 i hi) (fun hi => by rw [show b + 0 + ps.length = b + ps.length by omega]; exact p3 _ (Nat.le_refl _) (by omega)) hok (by simp) RowIs.nil (fun S' q e1 e2 e3 => h1 S' q e1 (F0.tr e2) e3) (fun e1 S' e2 e3 => h0 e1 S' (F0.tr e2) e3)
end M13
