/-! the model: noteFront, noteBehind, findPieces' first loop -/
def FrIs (S : ST) (F : List (Nat × Nat)) : Prop := S.1 389 15 = nI F.length ∧ ∀ i, i < F.length → S.2.1 399 i = nI (F.getD i (0, 0)).1 ∧ S.2.1 400 i = nI (F.getD i (0, 0)).2
def cntB (B : List (Nat × Nat)) (x : Nat) : Nat := (B.filter (fun q => q.2 == x)).length
def BhL (S : ST) (B : List (Nat × Nat)) : Prop := S.1 389 18 = nI B.length ∧ ∀ i, i < B.length → S.2.1 401 i = nI (B.getD i (0, 0)).1 ∧ S.2.1 402 i = nI (B.getD i (0, 0)).2
def BhC (S : ST) (B : List (Nat × Nat)) : Prop := ∀ x, x < 65536 → S.2.1 403 x = nI (cntB B x)
abbrev fX (a j : Nat) : Prop := a = 389 ∧ j = 15
abbrev fA (a : Nat) : Prop := a = 399 ∨ a = 400
abbrev bX (a j : Nat) : Prop := a = 389 ∧ j = 18
abbrev bA (a : Nat) : Prop := a = 401 ∨ a = 402 ∨ a = 403
theorem getD_app {l : List (Nat × Nat)} {x : Nat × Nat} {i : Nat} (h : i < l.length) : (l ++ [x]).getD i (0, 0) = l.getD i (0, 0) := by
  rw [List.getD_eq_getElem?_getD, List.getD_eq_getElem?_getD, List.getElem?_append_left h]
theorem getD_last {l : List (Nat × Nat)} {x : Nat × Nat} : (l ++ [x]).getD l.length (0, 0) = x := by simp
theorem cntB_le (B : List (Nat × Nat)) (x : Nat) : cntB B x ≤ B.length := List.length_filter_le _ _
theorem cntB_app (B : List (Nat × Nat)) (q : Nat × Nat) (x : Nat) : cntB (B ++ [q]) x = cntB B x + (if q.2 = x then 1 else 0) := by
  unfold cntB
  rw [List.filter_append, List.length_append]
  congr 1
  by_cases h : q.2 = x
  · simp [h]
  · simp [h]
section M21
variable {sc : SC} {S : ST} {Q : Option AV → HM → Prop}
set_option maxRecDepth 100000 in
set_option maxHeartbeats 4000000 in
theorem noteFront_no {p x : Int32} (hx : x.toInt < 0) (h : Q none (mk S)) : CT sc mX10_noteFront [aR 389, aI p, aI x] (mk S) Q := by
  refine S_of (by decide) rfl ?_
  show G sc mX10_noteFront 0 [some (aR 389), some (aI p), some (aI x)] [] (mk S) Q
  refine G_iload_n (pc := 0) dX10_noteFront_0 rfl rfl ?_
  refine T_if_lt (pc := 1) (tgt := 34) dX10_noteFront_1 (by decide) (fun c1 => ?_) (fun c1 => absurd c1 (by omega))
  refine S_vret (pc := 34) dX10_noteFront_34 rfl ?_
  exact h
set_option maxRecDepth 100000 in
set_option maxHeartbeats 4000000 in
theorem noteFront_yes {F : List (Nat × Nat)} {p n : Nat} (hF : FrIs S F) (hl : F.length < 4803) (hn : n < 65536) (h : ∀ S', Fr fX fA S S' → FrIs S' (F ++ [(p, n)]) → Q none (mk S')) : CT sc mX10_noteFront [aR 389, aI (nI p), aI (nI n)] (mk S) Q := by
  refine S_of (by decide) rfl ?_
  show G sc mX10_noteFront 0 [some (aR 389), some (aI (nI p)), some (aI (nI n))] [] (mk S) Q
  refine G_iload_n (pc := 0) dX10_noteFront_0 rfl rfl ?_
  refine N_if_lt (pc := 1) (tgt := 34) dX10_noteFront_1 (by decide) (by omega) ?_
  refine G_aload_n (pc := 4) dX10_noteFront_4 rfl rfl ?_
  refine S_getR (pc := 5) (b := 399) dX10_noteFront_5 fX10_37 rfl rfl (by first | rfl | assumption) rfl rfl ?_
  refine G_aload_n (pc := 8) dX10_noteFront_8 rfl rfl ?_
  refine S_getI (pc := 9) dX10_noteFront_9 fX10_175 rfl (by first | rfl | assumption) rfl ?_
  rw [hF.1]
  refine G_iload_n (pc := 12) dX10_noteFront_12 rfl rfl ?_
  refine N_iast (pc := 13) dX10_noteFront_13 (by first | rfl | assumption) (by first | rfl | assumption) (by omega) ?_
  refine G_aload_n (pc := 14) dX10_noteFront_14 rfl rfl ?_
  refine S_getR (pc := 15) (b := 400) dX10_noteFront_15 fX10_40 rfl rfl (by first | rfl | assumption) rfl rfl ?_
  refine G_aload_n (pc := 18) dX10_noteFront_18 rfl rfl ?_
  refine S_getI (pc := 19) dX10_noteFront_19 fX10_175 rfl (by first | rfl | assumption) rfl ?_
  rw [show (upI S 399 F.length (nI p)).1 389 15 = nI F.length from hF.1]
  refine G_iload_n (pc := 22) dX10_noteFront_22 rfl rfl ?_
  refine N_iast (pc := 23) dX10_noteFront_23 (by first | rfl | assumption) (by first | rfl | assumption) (by omega) ?_
  refine G_aload_n (pc := 24) dX10_noteFront_24 rfl rfl ?_
  refine G_dup (pc := 25) dX10_noteFront_25 rfl ?_
  refine S_getI (pc := 26) dX10_noteFront_26 fX10_175 rfl (by first | rfl | assumption) rfl ?_
  rw [show (upI (upI S 399 F.length (nI p)) 400 F.length (nI n)).1 389 15 = nI F.length from hF.1]
  refine G_iconst (pc := 29) (v := nI 1) dX10_noteFront_29 (by decide) ?_
  refine N_iadd (pc := 30) dX10_noteFront_30 ?_
  refine S_putI (pc := 31) dX10_noteFront_31 fX10_175 (by decide) rfl (by first | rfl | assumption) rfl ?_
  refine S_vret (pc := 34) dX10_noteFront_34 rfl ?_
  refine h _ (Fr.tr (Fr.tr (Fr.upI (Or.inl rfl)) (Fr.upI (Or.inr rfl))) (Fr.upX ⟨rfl, rfl⟩)) ⟨by rw [upX_s]; simp, fun i hi => ?_⟩
  show (upI (upI S 399 F.length (nI p)) 400 F.length (nI n)).2.1 399 i = _ ∧ (upI (upI S 399 F.length (nI p)) 400 F.length (nI n)).2.1 400 i = _
  by_cases hi2 : i = F.length
  · subst hi2
    rw [getD_last, upI_s, upI_n (by omega), upI_s]
    exact ⟨rfl, rfl⟩
  · simp only [List.length_append, List.length_cons, List.length_nil] at hi
    rw [getD_app (by omega), upI_n (by omega), upI_n (by omega), upI_n (by omega), upI_n (by omega)]
    exact hF.2 i (by omega)
set_option maxRecDepth 100000 in
set_option maxHeartbeats 4000000 in
theorem noteBehind_no {p x : Int32} (hx : x.toInt < 0) (h : Q none (mk S)) : CT sc mX10_noteBehind [aR 389, aI p, aI x] (mk S) Q := by
  refine S_of (by decide) rfl ?_
  show G sc mX10_noteBehind 0 [some (aR 389), some (aI p), some (aI x)] [] (mk S) Q
  refine G_iload_n (pc := 0) dX10_noteBehind_0 rfl rfl ?_
  refine T_if_lt (pc := 1) (tgt := 44) dX10_noteBehind_1 (by decide) (fun c1 => ?_) (fun c1 => absurd c1 (by omega))
  refine S_vret (pc := 44) dX10_noteBehind_44 rfl ?_
  exact h
set_option maxRecDepth 100000 in
set_option maxHeartbeats 4000000 in
theorem noteBehind_yes {B : List (Nat × Nat)} {p n : Nat} (hB : BhL S B) (hC : BhC S B) (hl : B.length < 4803) (hn : n < 65536) (h : ∀ S', Fr bX bA S S' → BhL S' (B ++ [(p, n)]) → BhC S' (B ++ [(p, n)]) → Q none (mk S')) : CT sc mX10_noteBehind [aR 389, aI (nI p), aI (nI n)] (mk S) Q := by
  refine S_of (by decide) rfl ?_
  show G sc mX10_noteBehind 0 [some (aR 389), some (aI (nI p)), some (aI (nI n))] [] (mk S) Q
  have e9 : (upX (upI (upI S 401 B.length (nI p)) 402 B.length (nI n)) 389 18 (nI (B.length + 1))).2.1 403 n = nI (cntB B n) := by
    show (upI (upI S 401 B.length (nI p)) 402 B.length (nI n)).2.1 403 n = _
    rw [upI_n (by omega), upI_n (by omega)]
    exact hC n hn
  refine G_iload_n (pc := 0) dX10_noteBehind_0 rfl rfl ?_
  refine N_if_lt (pc := 1) (tgt := 44) dX10_noteBehind_1 (by decide) (by omega) ?_
  refine G_aload_n (pc := 4) dX10_noteBehind_4 rfl rfl ?_
  refine S_getR (pc := 5) (b := 401) dX10_noteBehind_5 fX10_43 rfl rfl (by first | rfl | assumption) rfl rfl ?_
  refine G_aload_n (pc := 8) dX10_noteBehind_8 rfl rfl ?_
  refine S_getI (pc := 9) dX10_noteBehind_9 fX10_178 rfl (by first | rfl | assumption) rfl ?_
  rw [hB.1]
  refine G_iload_n (pc := 12) dX10_noteBehind_12 rfl rfl ?_
  refine N_iast (pc := 13) dX10_noteBehind_13 (by first | rfl | assumption) (by first | rfl | assumption) (by omega) ?_
  refine G_aload_n (pc := 14) dX10_noteBehind_14 rfl rfl ?_
  refine S_getR (pc := 15) (b := 402) dX10_noteBehind_15 fX10_46 rfl rfl (by first | rfl | assumption) rfl rfl ?_
  refine G_aload_n (pc := 18) dX10_noteBehind_18 rfl rfl ?_
  refine S_getI (pc := 19) dX10_noteBehind_19 fX10_178 rfl (by first | rfl | assumption) rfl ?_
  rw [show (upI S 401 B.length (nI p)).1 389 18 = nI B.length from hB.1]
  refine G_iload_n (pc := 22) dX10_noteBehind_22 rfl rfl ?_
  refine N_iast (pc := 23) dX10_noteBehind_23 (by first | rfl | assumption) (by first | rfl | assumption) (by omega) ?_
  refine G_aload_n (pc := 24) dX10_noteBehind_24 rfl rfl ?_
  refine G_dup (pc := 25) dX10_noteBehind_25 rfl ?_
  refine S_getI (pc := 26) dX10_noteBehind_26 fX10_178 rfl (by first | rfl | assumption) rfl ?_
  rw [show (upI (upI S 401 B.length (nI p)) 402 B.length (nI n)).1 389 18 = nI B.length from hB.1]
  refine G_iconst (pc := 29) (v := nI 1) dX10_noteBehind_29 (by decide) ?_
  refine N_iadd (pc := 30) dX10_noteBehind_30 ?_
  refine S_putI (pc := 31) dX10_noteBehind_31 fX10_178 (by decide) rfl (by first | rfl | assumption) rfl ?_
  refine G_aload_n (pc := 34) dX10_noteBehind_34 rfl rfl ?_
  refine S_getR (pc := 35) (b := 403) dX10_noteBehind_35 fX10_50 rfl rfl (by first | rfl | assumption) rfl rfl ?_
  refine G_iload_n (pc := 38) dX10_noteBehind_38 rfl rfl ?_
  refine G_dup2 (pc := 39) dX10_noteBehind_39 rfl rfl ?_
  refine N_iald (pc := 40) dX10_noteBehind_40 (by first | rfl | assumption) (by first | rfl | assumption) (by omega) ?_
  rw [e9]
  refine G_iconst (pc := 41) (v := nI 1) dX10_noteBehind_41 (by decide) ?_
  refine N_iadd (pc := 42) dX10_noteBehind_42 ?_
  refine N_iast (pc := 43) dX10_noteBehind_43 (by first | rfl | assumption) (by first | rfl | assumption) (by omega) ?_
  refine S_vret (pc := 44) dX10_noteBehind_44 rfl ?_
  refine h _ (Fr.tr (Fr.tr (Fr.tr (Fr.upI (Or.inl rfl)) (Fr.upI (Or.inr (Or.inl rfl)))) (Fr.upX ⟨rfl, rfl⟩)) (Fr.upI (Or.inr (Or.inr rfl)))) ⟨?_, fun i hi => ?_⟩ (fun x hx => ?_)
  · show (upX (upI (upI S 401 B.length (nI p)) 402 B.length (nI n)) 389 18 (nI (B.length + 1))).1 389 18 = _
    rw [upX_s]
    simp
  · rw [upI_n (by omega), upI_n (by omega)]
    show (upI (upI S 401 B.length (nI p)) 402 B.length (nI n)).2.1 401 i = _ ∧ (upI (upI S 401 B.length (nI p)) 402 B.length (nI n)).2.1 402 i = _
    by_cases hi2 : i = B.length
    · subst hi2
      rw [getD_last, upI_s, upI_n (by omega), upI_s]
      exact ⟨rfl, rfl⟩
    · simp only [List.length_append, List.length_cons, List.length_nil] at hi
      rw [getD_app (by omega), upI_n (by omega), upI_n (by omega), upI_n (by omega), upI_n (by omega)]
      exact hB.2 i (by omega)
  · rw [cntB_app]
    by_cases hxn : x = n
    · subst hxn
      rw [upI_s, if_pos rfl]
    · rw [upI_n (by omega), if_neg (by intro q; exact hxn q.symm)]
      show (upI (upI S 401 B.length (nI p)) 402 B.length (nI n)).2.1 403 x = _
      rw [upI_n (by omega), upI_n (by omega)]
      exact hC x hx
set_option maxRecDepth 100000 in
set_option maxHeartbeats 4000000 in
theorem findPieces_lp1 {S0 : ST} {B : List (Nat × Nat)} {o2 o3 o4 o5 o6 : Option AV} (hB : BhL S0 B) (hC : BhC S0 B) (hl : B.length ≤ 4803) (hx : ∀ i, i < B.length → (B.getD i (0, 0)).2 < 65536) :
    ∀ (d b : Nat) (S : ST), b + d = B.length → Fr bX bA S0 S → BhL S B → (∀ x, x < 65536 → S.2.1 403 x = S0.2.1 403 x ∨ S.2.1 403 x = nI 0) → (∀ i, i < b → S.2.1 403 (B.getD i (0, 0)).2 = nI 0) →
      (∀ S', Fr bX bA S0 S' → (∀ x, x < 65536 → S'.2.1 403 x = nI 0) → G sc mX10_findPieces 28 [some (aR 389), some (aI (nI B.length)), o2, o3, o4, o5, o6] [] (mk S') Q) →
      G sc mX10_findPieces 2 [some (aR 389), some (aI (nI b)), o2, o3, o4, o5, o6] [] (mk S) Q := by
  intro d
  induction d with
  | zero =>
    intro b S hb hF hBS h1 h2 h
    have e : b = B.length := by omega
    subst e
    refine G_iload_n (pc := 2) dX10_findPieces_2 rfl rfl ?_
    refine G_aload_n (pc := 3) dX10_findPieces_3 rfl rfl ?_
    refine S_getI (pc := 4) dX10_findPieces_4 fX10_178 rfl (by first | rfl | assumption) rfl ?_
    rw [hBS.1]
    refine N_icmp_ge (pc := 7) (tgt := 28) dX10_findPieces_7 (by decide) (by omega) (fun c7 => ?_) (fun c7 => absurd c7 (by omega))
    refine h S hF (fun x hx2 => ?_)
    rcases h1 x hx2 with g | g
    · by_cases hz : ∃ i, i < B.length ∧ (B.getD i (0, 0)).2 = x
      · obtain ⟨i, hi, rfl⟩ := hz
        exact h2 i hi
      · rw [g, hC x hx2]
        congr 1
        unfold cntB
        rw [List.length_eq_zero_iff, List.filter_eq_nil_iff]
        intro q hq
        obtain ⟨i, hi, rfl⟩ := List.getElem_of_mem hq
        have : ¬ (B[i]).2 = x := fun z => hz ⟨i, hi, by rw [List.getD_eq_getElem?_getD, List.getElem?_eq_getElem hi]; exact z⟩
        simpa using this
    · exact g
  | succ d ih =>
    intro b S hb hF hBS h1 h2 h
    have hbb := hBS.2 b (by omega)
    have hxb := hx b (by omega)
    refine G_iload_n (pc := 2) dX10_findPieces_2 rfl rfl ?_
    refine G_aload_n (pc := 3) dX10_findPieces_3 rfl rfl ?_
    refine S_getI (pc := 4) dX10_findPieces_4 fX10_178 rfl (by first | rfl | assumption) rfl ?_
    rw [hBS.1]
    refine N_icmp_ge (pc := 7) (tgt := 28) dX10_findPieces_7 (by decide) (by omega) (fun c7 => absurd c7 (by omega)) (fun c7 => ?_)
    refine G_aload_n (pc := 10) dX10_findPieces_10 rfl rfl ?_
    refine S_getR (pc := 11) (b := 403) dX10_findPieces_11 fX10_50 rfl rfl (by first | rfl | assumption) rfl rfl ?_
    refine G_aload_n (pc := 14) dX10_findPieces_14 rfl rfl ?_
    refine S_getR (pc := 15) (b := 402) dX10_findPieces_15 fX10_46 rfl rfl (by first | rfl | assumption) rfl rfl ?_
    refine G_iload_n (pc := 18) dX10_findPieces_18 rfl rfl ?_
    refine N_iald (pc := 19) dX10_findPieces_19 (by first | rfl | assumption) (by first | rfl | assumption) (by omega) ?_
    rw [hbb.2]
    refine G_iconst (pc := 20) (v := nI 0) dX10_findPieces_20 (by decide) ?_
    refine N_iast (pc := 21) dX10_findPieces_21 (by first | rfl | assumption) (by first | rfl | assumption) (by omega) ?_
    refine N_iinc (pc := 22) dX10_findPieces_22 rfl (by decide) rfl ?_
    refine G_goto (pc := 25) (tgt := 2) dX10_findPieces_25 (by decide) ?_
    refine ih (b + 1) (upI S 403 (B.getD b (0, 0)).2 (nI 0)) (by omega) (hF.tr (Fr.upI (Or.inr (Or.inr rfl)))) ⟨hBS.1, fun i hi => by rw [upI_n (by omega), upI_n (by omega)]; exact hBS.2 i hi⟩ (fun x hx2 => ?_) (fun i hi => ?_) h
    · by_cases hxe : x = (B.getD b (0, 0)).2
      · subst hxe; exact Or.inr upI_s
      · rw [upI_n (by omega)]; exact h1 x hx2
    · by_cases hxe : (B.getD i (0, 0)).2 = (B.getD b (0, 0)).2
      · rw [hxe]; exact upI_s
      · rw [upI_n (by omega)]; exact h2 i (by
          rcases Nat.lt_or_ge i b with g | g
          · exact g
          · exact absurd (by rw [show i = b by omega]) hxe)
end M21
