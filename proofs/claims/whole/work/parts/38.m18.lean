/-! the model: longOf -/
def TsOk (S : ST) (ts : List Nat) : Prop := ts.length ≤ 4 ∧ ∀ t ∈ ts, t < 12 ∧ S.2.1 391 t = nI (szN S t) ∧ szN S t ≤ 16 ∧ S.2.1 394 t = nI (esN S t) ∧ 1 ≤ esN S t ∧ esN S t ≤ 12
/-- how long the piece p is in all ends, where it begins (or closes) them -/
def longG (S : ST) (p : Nat) (bh : Bool) : List Nat → Nat → Nat → Option Nat
  | [], _, acc => some acc
  | t :: r, k, acc => match pcL (lnB S t) (szN S t) p with
    | none => none
    | some o => if stB (enB S t) (esN S t) o (if bh then (esN S t : Int) - o.length else 0) = true then longG S p bh r (k + 1) (acc + o.length * 2 ^ (4 * k)) else none
def longF (S : ST) (ts : List Nat) (p : Nat) (bh : Bool) : Option Nat := longG S p bh ts 0 0
theorem stB_len {e : Nat → Int32} {m : Nat} {o : List Int32} {p : Int} (h : stB e m o p = true) : 0 ≤ p ∧ p + o.length ≤ m := by
  unfold stB at h
  rw [Bool.and_eq_true] at h
  exact of_decide_eq_true h.1
theorem longG_n {S : ST} {p : Nat} {bh : Bool} {t k acc : Nat} {r : List Nat} (h1 : pcL (lnB S t) (szN S t) p = none) : longG S p bh (t :: r) k acc = none := by
  unfold longG
  rw [h1]
theorem longG_t {S : ST} {p : Nat} {bh : Bool} {t k acc : Nat} {r : List Nat} {o : List Int32} {pp : Int} (h1 : pcL (lnB S t) (szN S t) p = some o) (hp : (if bh = true then (esN S t : Int) - o.length else 0) = pp) (h2 : stB (enB S t) (esN S t) o pp = true) : longG S p bh (t :: r) k acc = longG S p bh r (k + 1) (acc + o.length * 2 ^ (4 * k)) := by
  conv => lhs; unfold longG
  rw [h1]
  dsimp only
  rw [hp, if_pos h2]
theorem longG_f {S : ST} {p : Nat} {bh : Bool} {t k acc : Nat} {r : List Nat} {o : List Int32} {pp : Int} (h1 : pcL (lnB S t) (szN S t) p = some o) (hp : (if bh = true then (esN S t : Int) - o.length else 0) = pp) (h2 : stB (enB S t) (esN S t) o pp = false) : longG S p bh (t :: r) k acc = none := by
  conv => lhs; unfold longG
  rw [h1]
  dsimp only
  rw [hp, if_neg (by simp [h2])]
section M18
variable {sc : SC} {S : ST} {Q : Option AV → HM → Prop}
set_option maxRecDepth 100000 in
set_option maxHeartbeats 4000000 in
theorem longOf_lp {S0 : ST} {p m : Nat} {bh : Bool} (hp : isPc p) (hm : m ≤ 4) (hsm : S0.1 389 13 = nI m) :
    ∀ (r : List Nat) (k acc : Nat) (S : ST) (o5 : Option AV), Fr oX oA S0 S → k + r.length = m → (∀ i, i < r.length → S0.2.1 398 (k + i) = nI (r.getD i 0)) → (∀ t ∈ r, t < 12 ∧ S0.2.1 391 t = nI (szN S0 t) ∧ szN S0 t ≤ 16 ∧ S0.2.1 394 t = nI (esN S0 t) ∧ 1 ≤ esN S0 t ∧ esN S0 t ≤ 12) → acc < 2 ^ (4 * k) →
      (∀ S', Fr oX oA S0 S' → Q (some (aI (oI (longG S0 p bh r k acc)))) (mk S')) →
      G sc mX10_longOf 5 [some (aR 389), some (aI (nI p)), some (aI (bI bh)), some (aI (nI acc)), some (aI (nI k)), o5] [] (mk S) Q := by
  intro r
  induction r with
  | nil =>
    intro k acc S o5 hF hk _ _ _ h
    have hk : k + 0 = m := hk
    have hs : S.1 389 13 = nI m := (hF.1 389 13 (by decide)).trans hsm
    refine G_iload (pc := 5) dX10_longOf_5 rfl ?_
    refine G_aload_n (pc := 7) dX10_longOf_7 rfl rfl ?_
    refine S_getI (pc := 8) dX10_longOf_8 fX10_164 rfl (by first | rfl | assumption) rfl ?_
    rw [hs]
    refine N_icmp_ge (pc := 11) (tgt := 98) dX10_longOf_11 (by decide) (by omega) (fun c11 => ?_) (fun c11 => absurd c11 (by omega))
    refine G_iload_n (pc := 98) dX10_longOf_98 rfl rfl ?_
    refine S_iret (pc := 99) dX10_longOf_99 rfl ?_
    exact h S hF
  | cons t r ih =>
    intro k acc S o5 hF hk hsh hts hacc h
    have hk : k + (r.length + 1) = m := hk
    have hs : S.1 389 13 = nI m := (hF.1 389 13 (by decide)).trans hsm
    obtain ⟨t1, t2, t3, t4, t5, t6⟩ := hts t List.mem_cons_self
    have F1 : Fr oX oA S0 (upX S 389 12 (nI 0)) := hF.tr (Fr.upX ⟨rfl, rfl⟩)
    have hp2 := isPc_lt hp
    have h16 := p16_le (show k ≤ 3 by omega)
    have hsk : ∀ S', Fr oX oA S0 S' → S'.2.1 398 k = nI t := fun S' g => (g.2.1 398 (by decide) k).trans (hsh 0 (by simp))
    refine G_iload (pc := 5) dX10_longOf_5 rfl ?_
    refine G_aload_n (pc := 7) dX10_longOf_7 rfl rfl ?_
    refine S_getI (pc := 8) dX10_longOf_8 fX10_164 rfl (by first | rfl | assumption) rfl ?_
    rw [hs]
    refine N_icmp_ge (pc := 11) (tgt := 98) dX10_longOf_11 (by decide) (by omega) (fun c11 => absurd c11 (by omega)) (fun c11 => ?_)
    refine G_aload_n (pc := 14) dX10_longOf_14 rfl rfl ?_
    refine G_iconst (pc := 15) (v := nI 0) dX10_longOf_15 (by decide) ?_
    refine S_putI (pc := 16) dX10_longOf_16 fX10_150 (by decide) rfl (by first | rfl | assumption) rfl ?_
    refine G_aload_n (pc := 19) dX10_longOf_19 rfl rfl ?_
    refine G_aload_n (pc := 20) dX10_longOf_20 rfl rfl ?_
    refine S_getR (pc := 21) (b := 398) dX10_longOf_21 fX10_34 rfl rfl (by first | rfl | assumption) rfl rfl ?_
    refine G_iload (pc := 24) dX10_longOf_24 rfl ?_
    refine N_iald (pc := 26) dX10_longOf_26 (by first | rfl | assumption) (by first | rfl | assumption) (by omega) ?_
    rw [hsk _ F1]
    refine G_iload_n (pc := 27) dX10_longOf_27 rfl rfl ?_
    refine S_callV (av := [_, _]) (pc := 28) (z := mX10_makePiece) (ci := 9) dX10_longOf_28 zX10_makePiece lX10_longOf_158 rfl (by first | rfl | assumption) rfl rfl (sX10_makePiece (n := szN S0 t) (l := []) t1 ((F1.2.1 391 (by decide) t).trans t2) t3 hp RowIs.nil (by simp) (fun S' q g1 g2 g3 => ⟨_, rfl, ?_⟩) (fun g1 => ⟨_, rfl, ?_⟩))
    · have eb : (fun j => (upX S 389 12 (nI 0)).2.1 390 (16 * t + j)) = lnB S0 t := by funext j; exact hF.2.1 390 (by decide) _
      rw [eb] at g1
      have F2 := F1.tr g2
      have g3 : OutIs S' q := g3
      have gl : q.length ≤ 16 := by have := pc_len hp t3 g1; split at this <;> omega
      have es1 : S'.2.1 394 t = nI (esN S0 t) := (F2.2.1 394 (by decide) t).trans t4
      have es2 : esN S' t = esN S0 t := by unfold esN; rw [F2.2.1 394 (by decide) t]
      have ee : enB S' t = enB S0 t := by funext j; exact F2.2.1 393 (by decide) _
      have es3 : S'.2.1 394 t = nI (esN S' t) := by rw [es2]; exact es1
      cases bh with
      | false =>
        refine G_istore (pc := 31) dX10_longOf_31 (by decide) rfl ?_
        refine G_iload (pc := 33) dX10_longOf_33 rfl ?_
        refine B_if_eq (pc := 35) (tgt := 77) dX10_longOf_35 (by decide) (fun c35 => absurd c35 (by decide)) (fun c35 => ?_)
        refine G_aload_n (pc := 38) dX10_longOf_38 rfl rfl ?_
        refine G_aload_n (pc := 39) dX10_longOf_39 rfl rfl ?_
        refine S_getR (pc := 40) (b := 398) dX10_longOf_40 fX10_34 rfl rfl (by first | rfl | assumption) rfl rfl ?_
        refine G_iload (pc := 43) dX10_longOf_43 rfl ?_
        refine N_iald (pc := 45) dX10_longOf_45 (by first | rfl | assumption) (by first | rfl | assumption) (by omega) ?_
        rw [hsk _ F2]
        refine G_iload_n (pc := 46) dX10_longOf_46 rfl rfl ?_
        refine B_if_eq (pc := 47) (tgt := 70) dX10_longOf_47 (by decide) (fun c47 => ?_) (fun c47 => absurd c47 (by decide))
        refine G_iconst (pc := 70) (v := nI 0) dX10_longOf_70 (by decide) ?_
        refine S_callV (av := [_, _]) (pc := 71) (z := mX10_standsAt) (ci := 9) dX10_longOf_71 zX10_standsAt lX10_longOf_172 rfl (by first | rfl | assumption) rfl rfl (sX10_standsAt t1 es3 (by omega) g3 (by omega) (by decide) ⟨_, rfl, ?_⟩)
        rw [es2, ee, show ((nI 0).toInt) = 0 from rfl]
        refine B_if_ne (pc := 74) (tgt := 80) dX10_longOf_74 (by decide) (fun c74 => ?_) (fun c74 => ?_)
        · skip
          rw [longG_t (bh := false) g1 rfl c74] at h
          have gz := stB_len c74
          have gm := Nat.mul_le_mul_right (2 ^ (4 * k)) (show q.length ≤ 15 by omega)
          refine G_iload_n (pc := 80) dX10_longOf_80 rfl rfl ?_
          refine G_aload_n (pc := 81) dX10_longOf_81 rfl rfl ?_
          refine S_getI (pc := 82) dX10_longOf_82 fX10_150 rfl (by first | rfl | assumption) rfl ?_
          rw [g3.1]
          refine G_iconst (pc := 85) (v := nI 4) dX10_longOf_85 (by decide) ?_
          refine G_iload (pc := 86) dX10_longOf_86 rfl ?_
          refine N_imul (pc := 88) dX10_longOf_88 ?_
          refine G_ishl (pc := 89) dX10_longOf_89 ?_
          rw [shlN (by omega) (by omega)]
          refine G_ior (pc := 90) dX10_longOf_90 ?_
          rw [orN q.length hacc]
          refine G_istore_n (pc := 91) dX10_longOf_91 rfl (by decide) rfl ?_
          refine N_iinc (pc := 92) dX10_longOf_92 rfl (by decide) rfl ?_
          refine G_goto (pc := 95) (tgt := 5) dX10_longOf_95 (by decide) ?_
          exact ih (k + 1) _ S' _ F2 (by omega) (fun i hi => by rw [show k + 1 + i = k + (i + 1) by omega, hsh (i + 1) (by simp; omega)]; simp) (fun u hu => hts u (List.mem_cons_of_mem _ hu)) (p16_lt hacc (by omega)) h
        · skip
          rw [longG_f (bh := false) g1 rfl c74] at h
          refine G_bipush (pc := 77) (v := (-4)) dX10_longOf_77 (by decide) ?_
          refine S_iret (pc := 79) dX10_longOf_79 rfl ?_
          exact h S' F2
      | true =>
        refine G_istore (pc := 31) dX10_longOf_31 (by decide) rfl ?_
        refine G_iload (pc := 33) dX10_longOf_33 rfl ?_
        refine B_if_eq (pc := 35) (tgt := 77) dX10_longOf_35 (by decide) (fun c35 => absurd c35 (by decide)) (fun c35 => ?_)
        refine G_aload_n (pc := 38) dX10_longOf_38 rfl rfl ?_
        refine G_aload_n (pc := 39) dX10_longOf_39 rfl rfl ?_
        refine S_getR (pc := 40) (b := 398) dX10_longOf_40 fX10_34 rfl rfl (by first | rfl | assumption) rfl rfl ?_
        refine G_iload (pc := 43) dX10_longOf_43 rfl ?_
        refine N_iald (pc := 45) dX10_longOf_45 (by first | rfl | assumption) (by first | rfl | assumption) (by omega) ?_
        rw [hsk _ F2]
        refine G_iload_n (pc := 46) dX10_longOf_46 rfl rfl ?_
        refine B_if_eq (pc := 47) (tgt := 70) dX10_longOf_47 (by decide) (fun c47 => absurd c47 (by decide)) (fun c47 => ?_)
        refine G_aload_n (pc := 50) dX10_longOf_50 rfl rfl ?_
        refine S_getR (pc := 51) (b := 394) dX10_longOf_51 fX10_22 rfl rfl (by first | rfl | assumption) rfl rfl ?_
        refine G_aload_n (pc := 54) dX10_longOf_54 rfl rfl ?_
        refine S_getR (pc := 55) (b := 398) dX10_longOf_55 fX10_34 rfl rfl (by first | rfl | assumption) rfl rfl ?_
        refine G_iload (pc := 58) dX10_longOf_58 rfl ?_
        refine N_iald (pc := 60) dX10_longOf_60 (by first | rfl | assumption) (by first | rfl | assumption) (by omega) ?_
        rw [hsk _ F2]
        refine N_iald (pc := 61) dX10_longOf_61 (by first | rfl | assumption) (by first | rfl | assumption) (by omega) ?_
        rw [es1]
        refine G_aload_n (pc := 62) dX10_longOf_62 rfl rfl ?_
        refine S_getI (pc := 63) dX10_longOf_63 fX10_150 rfl (by first | rfl | assumption) rfl ?_
        rw [g3.1]
        refine G_isub (pc := 66) dX10_longOf_66 ?_
        refine G_goto (pc := 67) (tgt := 71) dX10_longOf_67 (by decide) ?_
        refine S_callV (av := [_, _]) (pc := 71) (z := mX10_standsAt) (ci := 9) dX10_longOf_71 zX10_standsAt lX10_longOf_172 rfl (by first | rfl | assumption) rfl rfl (sX10_standsAt t1 es3 (by omega) g3 (by omega) (by rw [pk_sub_toInt (by omega) (by omega)]; omega) ⟨_, rfl, ?_⟩)
        rw [es2, ee, pk_sub_toInt (by omega) (by omega)]
        refine B_if_ne (pc := 74) (tgt := 80) dX10_longOf_74 (by decide) (fun c74 => ?_) (fun c74 => ?_)
        · skip
          rw [longG_t (bh := true) g1 rfl c74] at h
          have gz := stB_len c74
          have gm := Nat.mul_le_mul_right (2 ^ (4 * k)) (show q.length ≤ 15 by omega)
          refine G_iload_n (pc := 80) dX10_longOf_80 rfl rfl ?_
          refine G_aload_n (pc := 81) dX10_longOf_81 rfl rfl ?_
          refine S_getI (pc := 82) dX10_longOf_82 fX10_150 rfl (by first | rfl | assumption) rfl ?_
          rw [g3.1]
          refine G_iconst (pc := 85) (v := nI 4) dX10_longOf_85 (by decide) ?_
          refine G_iload (pc := 86) dX10_longOf_86 rfl ?_
          refine N_imul (pc := 88) dX10_longOf_88 ?_
          refine G_ishl (pc := 89) dX10_longOf_89 ?_
          rw [shlN (by omega) (by omega)]
          refine G_ior (pc := 90) dX10_longOf_90 ?_
          rw [orN q.length hacc]
          refine G_istore_n (pc := 91) dX10_longOf_91 rfl (by decide) rfl ?_
          refine N_iinc (pc := 92) dX10_longOf_92 rfl (by decide) rfl ?_
          refine G_goto (pc := 95) (tgt := 5) dX10_longOf_95 (by decide) ?_
          exact ih (k + 1) _ S' _ F2 (by omega) (fun i hi => by rw [show k + 1 + i = k + (i + 1) by omega, hsh (i + 1) (by simp; omega)]; simp) (fun u hu => hts u (List.mem_cons_of_mem _ hu)) (p16_lt hacc (by omega)) h
        · skip
          rw [longG_f (bh := true) g1 rfl c74] at h
          refine G_bipush (pc := 77) (v := (-4)) dX10_longOf_77 (by decide) ?_
          refine S_iret (pc := 79) dX10_longOf_79 rfl ?_
          exact h S' F2
    skip
    have eb : (fun j => (upX S 389 12 (nI 0)).2.1 390 (16 * t + j)) = lnB S0 t := by funext j; exact hF.2.1 390 (by decide) _
    rw [eb] at g1
    rw [longG_n g1] at h
    refine G_istore (pc := 31) dX10_longOf_31 (by decide) rfl ?_
    refine G_iload (pc := 33) dX10_longOf_33 rfl ?_
    refine B_if_eq (pc := 35) (tgt := 77) dX10_longOf_35 (by decide) (fun c35 => ?_) (fun c35 => absurd c35 (by decide))
    refine G_bipush (pc := 77) (v := (-4)) dX10_longOf_77 (by decide) ?_
    refine S_iret (pc := 79) dX10_longOf_79 rfl ?_
    exact h _ F1
set_option maxRecDepth 100000 in
set_option maxHeartbeats 4000000 in
theorem sX10_longOf {p : Nat} {bh : Bool} {ts : List Nat} (hp : isPc p) (hts : TsOk S ts) (hsh : ShIs S ts) (h : ∀ S', Fr oX oA S S' → Q (some (aI (oI (longF S ts p bh)))) (mk S')) : CT sc mX10_longOf [aR 389, aI (nI p), aI (bI bh)] (mk S) Q := by
  refine S_of (by decide) rfl ?_
  show G sc mX10_longOf 0 [some (aR 389), some (aI (nI p)), some (aI (bI bh)), none, none, none] [] (mk S) Q
  refine G_iconst (pc := 0) (v := nI 0) dX10_longOf_0 (by decide) ?_
  refine G_istore_n (pc := 1) dX10_longOf_1 rfl (by decide) rfl ?_
  refine G_iconst (pc := 2) (v := nI 0) dX10_longOf_2 (by decide) ?_
  refine G_istore (pc := 3) dX10_longOf_3 (by decide) rfl ?_
  exact longOf_lp hp hts.1 hsh.1 ts 0 0 S _ Fr.rf (by omega) (fun i hi => by rw [Nat.zero_add]; exact hsh.2 i hi) hts.2 (by decide) h
end M18
