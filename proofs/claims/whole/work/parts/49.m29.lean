/-! the spec's words hang on lines and ends alone; what pieces are found; what programs are nearest -/
def SpW (S S' : ST) : Prop := ∀ a, a = 390 ∨ a = 391 ∨ a = 393 ∨ a = 394 → ∀ j, S'.2.1 a j = S.2.1 a j
theorem SpW.rf {S : ST} : SpW S S := fun _ _ _ => rfl
theorem SpW.tr {S S1 S2 : ST} (h1 : SpW S S1) (h2 : SpW S1 S2) : SpW S S2 := fun a ha j => (h2 a ha j).trans (h1 a ha j)
theorem SpW.sy {S S1 : ST} (h1 : SpW S S1) : SpW S1 S := fun a ha j => (h1 a ha j).symm
theorem SpW_h {S S' : ST} (h : Fr hX hA S S') : SpW S S' := fun a ha => h.2.1 a (by omega)
theorem esN_w {S S' : ST} (h : SpW S S') (t : Nat) : esN S' t = esN S t := by unfold esN; rw [h 394 (by omega)]
theorem szN_w {S S' : ST} (h : SpW S S') (t : Nat) : szN S' t = szN S t := by unfold szN; rw [h 391 (by omega)]
theorem enB_w {S S' : ST} (h : SpW S S') (t : Nat) : enB S' t = enB S t := by funext j; exact h 393 (by omega) _
theorem lnB_w {S S' : ST} (h : SpW S S') (t : Nat) : lnB S' t = lnB S t := by funext j; exact h 390 (by omega) _
theorem allG_w {S S' : ST} (h : SpW S S') (n : Nat) : ∀ (r : List Nat) (k : Nat), allG S' n r k = allG S n r k
  | [], _ => rfl
  | t :: r, k => by unfold allG; rw [esN_w h, allG_w h n r]
theorem leftG_w {S S' : ST} (h : SpW S S') (n m : Nat) : ∀ (r : List Nat) (k acc : Nat), leftG S' n m r k acc = leftG S n m r k acc
  | [], _, _ => rfl
  | t :: r, k, acc => by unfold leftG; rw [esN_w h, leftG_w h n m r]
theorem typN_w {S S' : ST} (h : SpW S S') (t f : Nat) : ∀ (d i acc : Nat), typN S' t f d i acc = typN S t f d i acc
  | 0, _, _ => rfl
  | d + 1, i, acc => by unfold typN; rw [enB_w h, typN_w h t f d]
theorem typG_w {S S' : ST} (h : SpW S S') (n q : Nat) : ∀ (r : List Nat) (k f : Nat), typG S' n q r k f = typG S n q r k f
  | [], _, _ => rfl
  | t :: r, k, f => by unfold typG; rw [esN_w h, typN_w h, typG_w h n q r]
theorem longG_w {S S' : ST} (h : SpW S S') (p : Nat) (bh : Bool) : ∀ (r : List Nat) (k acc : Nat), longG S' p bh r k acc = longG S p bh r k acc
  | [], _, _ => rfl
  | t :: r, k, acc => by
    unfold longG
    rw [lnB_w h, enB_w h, szN_w h, esN_w h]
    split
    · rfl
    · rw [longG_w h p bh r]
theorem pcF_w {S S' : ST} (h : SpW S S') (ts : List Nat) (bh : Bool) : ∀ c, pcF S' ts bh c = pcF S ts bh c
  | 0 => rfl
  | c + 1 => by unfold pcF longF; rw [longG_w h, pcF_w h ts bh c]
theorem ftG_w {S S' : ST} (h : SpW S S') (m : Nat) : ∀ (r : List Nat) (b : Bool), ftG S' m r b = ftG S m r b
  | [], _ => rfl
  | t :: r, b => by unfold ftG; rw [esN_w h, ftG_w h m r]
theorem bkG_w {S S' : ST} (h : SpW S S') (m : Nat) : ∀ (r : List Nat) (k : Nat) (b : Bool) (acc : Nat), bkG S' m r k b acc = bkG S m r k b acc
  | [], _, _, _ => rfl
  | t :: r, k, b, acc => by unfold bkG; rw [esN_w h, bkG_w h m r]
theorem tyF_w {S S' : ST} (h : SpW S S') (ts : List Nat) (m : Nat) : tyF S' ts m = tyF S ts m := by unfold tyF; rw [ftG_w h, typG_w h]
theorem tyB_w {S S' : ST} (h : SpW S S') (ts : List Nat) (m : Nat) : tyB S' ts m = tyB S ts m := by unfold tyB; rw [ftG_w h, bkG_w h, typG_w h]
theorem frT_w {S S' : ST} (h : SpW S S') (ts : List Nat) : ∀ d m F, frT S' ts d m F = frT S ts d m F
  | 0, _, _ => rfl
  | d + 1, m, F => by unfold frT; rw [tyF_w h, frT_w h ts d]
theorem bhT_w {S S' : ST} (h : SpW S S') (ts : List Nat) : ∀ d m F, bhT S' ts d m F = bhT S ts d m F
  | 0, _, _ => rfl
  | d + 1, m, F => by unfold bhT; rw [tyB_w h, bhT_w h ts d]
theorem frA_w {S S' : ST} (h : SpW S S') (ts : List Nat) : frA S' ts = frA S ts := by unfold frA; rw [pcF_w h, frT_w h]
theorem bhA_w {S S' : ST} (h : SpW S S') (ts : List Nat) : bhA S' ts = bhA S ts := by unfold bhA; rw [pcF_w h, bhT_w h]
theorem fT3_w {S S' : ST} (h : SpW S S') (ts : List Nat) (B : List (Nat × Nat)) (L m : Nat) : fT3 S' ts B L m = fT3 S ts B L m := by unfold fT3; rw [leftG_w h, typG_w h]
theorem fT_w {S S' : ST} (h : SpW S S') (ts : List Nat) (B : List (Nat × Nat)) (n L : Nat) : fT S' ts B n L = fT S ts B n L := by unfold fT; rw [leftG_w h, allG_w h, fT3_w h, fT3_w h, fT3_w h]
theorem fitP_w {S S' : ST} (h : SpW S S') (ts : List Nat) (F B : List (Nat × Nat)) (n : Nat) : ∀ f, fitP S' ts F B n f = fitP S ts F B n f
  | 0 => rfl
  | f + 1 => by unfold fitP; rw [fT_w h, fitP_w h ts F B n f]
theorem oneF_w {S S' : ST} (h : SpW S S') (ts : List Nat) (F : List (Nat × Nat)) (c : Nat) : ∀ d f, oneF S' ts F c d f = oneF S ts F c d f
  | 0, _ => rfl
  | d + 1, f => by unfold oneF; rw [allG_w h, oneF_w h ts F c d]
theorem two1_w {S S' : ST} (h : SpW S S') (ts : List Nat) (F B : List (Nat × Nat)) (c f : Nat) : two1 S' ts F B c f = two1 S ts F B c f := by unfold two1; rw [leftG_w h]
theorem twoF_w {S S' : ST} (h : SpW S S') (ts : List Nat) (F B : List (Nat × Nat)) (c : Nat) : ∀ d f, twoF S' ts F B c d f = twoF S ts F B c d f
  | 0, _ => rfl
  | d + 1, f => by unfold twoF; rw [two1_w h, twoF_w h ts F B c d]
theorem thr1_w {S S' : ST} (h : SpW S S') (ts : List Nat) (F B : List (Nat × Nat)) (c f m : Nat) : thr1 S' ts F B c f m = thr1 S ts F B c f m := by unfold thr1; rw [leftG_w h, typG_w h]
theorem thrM_w {S S' : ST} (h : SpW S S') (ts : List Nat) (F B : List (Nat × Nat)) (c f : Nat) : ∀ d m, thrM S' ts F B c f d m = thrM S ts F B c f d m
  | 0, _ => rfl
  | d + 1, m => by unfold thrM; rw [thr1_w h, thrM_w h ts F B c f d]
theorem thrF_w {S S' : ST} (h : SpW S S') (ts : List Nat) (F B : List (Nat × Nat)) (c : Nat) : ∀ d f, thrF S' ts F B c d f = thrF S ts F B c d f
  | 0, _ => rfl
  | d + 1, f => by unfold thrF; rw [thrM_w h, thrF_w h ts F B c d]
theorem cstF_w {S S' : ST} (h : SpW S S') (ts : List Nat) (F B : List (Nat × Nat)) : ∀ d c, cstF S' ts F B d c = cstF S ts F B d c
  | 0, _ => rfl
  | d + 1, c => by unfold cstF; rw [oneF_w h, twoF_w h, thrF_w h, cstF_w h ts F B d]
theorem neA_w {S S' : ST} (h : SpW S S') (ts : List Nat) : neA S' ts = neA S ts := by unfold neA; rw [frA_w h, bhA_w h, cstF_w h]
theorem TsOk_w {S S' : ST} (h : SpW S S') {ts : List Nat} (ht : TsOk S ts) : TsOk S' ts := by
  refine ⟨ht.1, fun t q => ?_⟩
  have e := ht.2 t q
  simp only [szN, esN, h 391 (by omega), h 394 (by omega)] at e ⊢
  exact e
theorem EnBy_w {S S' : ST} (h : SpW S S') {ts : List Nat} (ht : EnBy S ts) : EnBy S' ts := by
  intro t q j hj
  rw [esN_w h] at hj
  rw [enB_w h]
  exact ht t q j hj
theorem shF_mem {S : ST} {but : Nat} : ∀ (d t u : Nat), u ∈ shF S but d t → t ≤ u ∧ u < t + d ∧ stN S u = 1 ∧ but / 2 ^ u % 2 = 0
  | 0, _, _, h => by cases h
  | d + 1, t, u, h => by
    unfold shF at h
    split at h
    · rename_i q
      rcases List.mem_cons.mp h with rfl | h
      · exact ⟨Nat.le_refl _, by omega, q.1, q.2⟩
      · have := shF_mem d (t + 1) u h
        exact ⟨by omega, by omega, this.2.2⟩
    · have := shF_mem d (t + 1) u h
      exact ⟨by omega, by omega, this.2.2⟩
theorem shL_mem {S : ST} {but u : Nat} (h : u ∈ shL S but) : u < thN S ∧ stN S u = 1 := by
  have := shF_mem _ _ _ h
  exact ⟨by omega, this.2.2.1⟩
theorem shF_len {S : ST} {but : Nat} : ∀ (d t : Nat), (shF S but d t).length ≤ (shF S 0 d t).length
  | 0, _ => Nat.le_refl _
  | d + 1, t => by
    have := shF_len (S := S) (but := but) d (t + 1)
    unfold shF
    by_cases h1 : stN S t = 1
    · rw [if_pos (show stN S t = 1 ∧ 0 / 2 ^ t % 2 = 0 from ⟨h1, by simp⟩)]
      split
      · simp; omega
      · simp; omega
    · rw [if_neg (fun q => h1 q.1), if_neg (fun q => h1 q.1)]
      exact this
theorem shL_len {S : ST} {but : Nat} : (shL S but).length ≤ (shL S 0).length := shF_len _ _
theorem TsOk_sh {S : ST} {but : Nat} (ha : MIa S) (hb : MIb S) (h4 : (shL S 0).length ≤ 4) : TsOk S (shL S but) := by
  refine ⟨Nat.le_trans shL_len h4, fun t ht => ?_⟩
  have h1 := shL_mem ht
  have h2 := ha.2 t h1.1
  have h3 := hb t h1.1
  have h5 := ha.1.2
  exact ⟨by omega, h2.1, h2.2.2.1, h3.2.1.1, (h3.2.2.1 h1.2).1, (h3.2.2.1 h1.2).2⟩
theorem EnBy_sh {S : ST} {but : Nat} (hb : MIb S) : EnBy S (shL S but) := by
  intro t ht j hj
  have h1 := shL_mem ht
  exact (hb t h1.1).2.2.2 (Or.inl h1.2) j hj
theorem cntS_sh {S : ST} (hb : MIb S) : ∀ (d t : Nat), t + d ≤ thN S → cntS S (nI 1) (t + d) = cntS S (nI 1) t + (shF S 0 d t).length
  | 0, t, _ => by simp [shF]
  | d + 1, t, hd => by
    have h1 := cntS_sh hb d (t + 1) (by omega)
    rw [show t + (d + 1) = t + 1 + d by omega, h1]
    have h2 := (hb t (by omega)).1
    have e1 : cntS S (nI 1) (t + 1) = cntS S (nI 1) t + (if (S.2.1 392 t).toInt = (nI 1).toInt then 1 else 0) := rfl
    have z : (nI 1).toInt = 1 := rfl
    rw [e1, h2.1, nIt (by omega), z]
    conv => rhs; unfold shF
    by_cases h3 : stN S t = 1
    · rw [if_pos (by omega), if_pos (show stN S t = 1 ∧ 0 / 2 ^ t % 2 = 0 from ⟨h3, by simp⟩)]
      simp; omega
    · rw [if_neg (by omega), if_neg (fun q => h3 q.1)]
      simp
theorem cnt_sh {S : ST} (hb : MIb S) : cntS S (nI 1) (thN S) = (shL S 0).length := by
  have := cntS_sh hb (thN S) 0 (by omega)
  rw [Nat.zero_add] at this
  rw [this]
  simp [cntS, shL]
/-- pieces and how long they are -/
def LsOk (F : List (Nat × Nat)) : Prop := ∀ q ∈ F, isPc q.1 ∧ q.2 < 65536
theorem pcF_ok {S : ST} {ts : List Nat} {bh : Bool} (ht : TsOk S ts) : ∀ c, c ≤ 4800 → LsOk (pcF S ts bh c)
  | 0, _ => fun q hq => by cases hq
  | c + 1, hc => by
    intro q hq
    unfold pcF oApp at hq
    split at hq
    · rename_i L hL
      rcases List.mem_append.mp hq with hq | hq
      · exact pcF_ok ht c (by omega) q hq
      · rw [List.mem_singleton] at hq
        subst hq
        exact ⟨Or.inl (by show c < 4800; omega), longF_lt ht hL⟩
    · exact pcF_ok ht c (by omega) q hq
theorem typG_pc {S : ST} {ts : List Nat} {n m w : Nat} (h0 : ts ≠ []) (hby : EnBy S ts) (hm : 1 ≤ m ∧ m ≤ 3) (h : typG S n m ts 0 0 = some w) : 16777216 ≤ w ∧ w < 67108864 := by
  have h1 := typG_lt (by omega) ts 0 0 w hby (by decide) h
  have h2 := typG_ge ts 0 0 w (fun e => absurd e h0) h
  omega
theorem onG_lt4 {S : ST} {ts : List Nat} {m : Nat} (ht : TsOk S ts) (hm : m ≤ 3) : onG m ts 0 0 < 65536 := by
  have h1 := onG_lt (m := m) (by omega) ts 0 0 (by decide)
  have h2 := p16_4 (show 0 + ts.length ≤ 4 by have := ht.1; omega)
  omega
theorem tApp_ok {F : List (Nat × Nat)} {o : Option Nat} {n : Nat} (hF : LsOk F) (ho : ∀ p, o = some p → isPc p) (hn : n < 65536) : LsOk (tApp F o n) := by
  intro q hq
  unfold tApp at hq
  split at hq
  · rcases List.mem_append.mp hq with hq | hq
    · exact hF q hq
    · rw [List.mem_singleton] at hq
      subst hq
      exact ⟨ho _ rfl, hn⟩
  · exact hF q hq
theorem tyF_pc {S : ST} {ts : List Nat} {m w : Nat} (h0 : ts ≠ []) (hby : EnBy S ts) (hm : 1 ≤ m ∧ m ≤ 3) (h : tyF S ts m = some w) : isPc w := by
  unfold tyF at h
  split at h
  · exact Or.inr (typG_pc h0 hby hm h)
  · cases h
theorem tyB_pc {S : ST} {ts : List Nat} {m w : Nat} (h0 : ts ≠ []) (hby : EnBy S ts) (hm : 1 ≤ m ∧ m ≤ 3) (h : tyB S ts m = some w) : isPc w := by
  unfold tyB at h
  split at h
  · exact Or.inr (typG_pc h0 hby hm h)
  · cases h
theorem frT_ok {S : ST} {ts : List Nat} (h0 : ts ≠ []) (ht : TsOk S ts) (hby : EnBy S ts) : ∀ d m F, 1 ≤ m → m + d ≤ 4 → LsOk F → LsOk (frT S ts d m F)
  | 0, _, _, _, _, h => h
  | d + 1, m, F, h1, h2, h => frT_ok h0 ht hby d (m + 1) _ (by omega) (by omega) (tApp_ok h (fun p hp => tyF_pc h0 hby (by omega) hp) (onG_lt4 ht (by omega)))
theorem bhT_ok {S : ST} {ts : List Nat} (h0 : ts ≠ []) (ht : TsOk S ts) (hby : EnBy S ts) : ∀ d m F, 1 ≤ m → m + d ≤ 4 → LsOk F → LsOk (bhT S ts d m F)
  | 0, _, _, _, _, h => h
  | d + 1, m, F, h1, h2, h => bhT_ok h0 ht hby d (m + 1) _ (by omega) (by omega) (tApp_ok h (fun p hp => tyB_pc h0 hby (by omega) hp) (onG_lt4 ht (by omega)))
theorem frT_len {S : ST} {ts : List Nat} : ∀ d m F, (frT S ts d m F).length ≤ F.length + d
  | 0, _, _ => Nat.le_refl _
  | d + 1, m, F => by
    have h1 := frT_len (S := S) (ts := ts) d (m + 1) (tApp F (tyF S ts m) (onG m ts 0 0))
    have h2 := tApp_len (F := F) (n := onG m ts 0 0) (o := tyF S ts m)
    show (frT S ts d (m + 1) (tApp F (tyF S ts m) (onG m ts 0 0))).length ≤ _
    omega
theorem bhT_len {S : ST} {ts : List Nat} : ∀ d m F, (bhT S ts d m F).length ≤ F.length + d
  | 0, _, _ => Nat.le_refl _
  | d + 1, m, F => by
    have h1 := bhT_len (S := S) (ts := ts) d (m + 1) (tApp F (tyB S ts m) (onG m ts 0 0))
    have h2 := tApp_len (F := F) (n := onG m ts 0 0) (o := tyB S ts m)
    show (bhT S ts d (m + 1) (tApp F (tyB S ts m) (onG m ts 0 0))).length ≤ _
    omega
theorem frA_ok {S : ST} {ts : List Nat} (h0 : ts ≠ []) (ht : TsOk S ts) (hby : EnBy S ts) : LsOk (frA S ts) ∧ (frA S ts).length ≤ 4803 := ⟨frT_ok h0 ht hby 3 1 _ (by omega) (by omega) (pcF_ok ht 4800 (by omega)), by
  have h1 := frT_len (S := S) (ts := ts) 3 1 (pcF S ts false 4800)
  have h2 := pcF_len S ts false 4800
  show (frT S ts 3 1 (pcF S ts false 4800)).length ≤ _
  omega⟩
theorem bhA_ok {S : ST} {ts : List Nat} (h0 : ts ≠ []) (ht : TsOk S ts) (hby : EnBy S ts) : LsOk (bhA S ts) ∧ (bhA S ts).length ≤ 4803 := ⟨bhT_ok h0 ht hby 3 1 _ (by omega) (by omega) (pcF_ok ht 4800 (by omega)), by
  have h1 := bhT_len (S := S) (ts := ts) 3 1 (pcF S ts true 4800)
  have h2 := pcF_len S ts true 4800
  show (bhT S ts 3 1 (pcF S ts true 4800)).length ≤ _
  omega⟩
theorem getD_mem2 {F : List (Nat × Nat)} {i : Nat} (h : i < F.length) : F.getD i (0, 0) ∈ F := by
  rw [List.getD_eq_getElem?_getD, List.getElem?_eq_getElem h]
  exact List.getElem_mem h
/-- a program that a showing gives -/
def PgOk (ps : List Nat) : Prop := okL 0 ps ∧ (∀ x ∈ ps, isPc x) ∧ ps ≠ [] ∧ ps.length ≤ 3
theorem pg1 {a : Nat} (h : isPc a) : PgOk [a] := ⟨⟨by omega, h, trivial⟩, fun x hx => by rw [List.mem_singleton] at hx; subst hx; exact h, by simp, by simp⟩
theorem pg2 {a b : Nat} (h : isPc a) (h2 : isPc b) : PgOk [a, b] := ⟨⟨by omega, h, by split <;> omega, h2, trivial⟩, fun x hx => by
  simp only [List.mem_cons, List.not_mem_nil, or_false] at hx
  rcases hx with rfl | rfl
  · exact h
  · exact h2, by simp, by simp⟩
theorem pg3 {a m b : Nat} (h : isPc a) (hm : 16777216 ≤ m ∧ m < 67108864) (h2 : isPc b) : PgOk [a, m, b] := ⟨⟨by omega, h, by split <;> omega, Or.inr hm, by rw [if_pos hm.1]; split <;> omega, h2, trivial⟩, fun x hx => by
  simp only [List.mem_cons, List.not_mem_nil, or_false] at hx
  rcases hx with rfl | rfl | rfl
  · exact h
  · exact Or.inr hm
  · exact h2, by simp, by simp⟩
def PsOk (N : List (List Nat)) : Prop := ∀ ps ∈ N, PgOk ps
theorem PsOk.app {N l : List (List Nat)} (h1 : PsOk N) (h2 : PsOk l) : PsOk (N ++ l) := fun ps hp => by
  rcases List.mem_append.mp hp with h | h
  · exact h1 ps h
  · exact h2 ps h
theorem PsOk.nil : PsOk [] := fun _ h => by cases h
theorem PsOk.one {ps : List Nat} (h : PgOk ps) : PsOk [ps] := fun x hx => by rw [List.mem_singleton] at hx; subst hx; exact h
theorem wiF_ok {B : List (Nat × Nat)} {fp left : Nat} {mid : Option Nat} {c : Int} (hB : LsOk B) (hf : isPc fp) (hm : ∀ m, mid = some m → 16777216 ≤ m ∧ m < 67108864) : ∀ d b, b + d ≤ B.length → PsOk (wiF B fp mid left c d b)
  | 0, _, _ => PsOk.nil
  | d + 1, b, hb => by
    unfold wiF
    refine PsOk.app ?_ (wiF_ok hB hf hm d (b + 1) (by omega))
    have h1 := (hB _ (getD_mem2 (show b < B.length by omega))).1
    split
    · refine PsOk.one ?_
      cases mid with
      | none => exact pg2 hf h1
      | some m => exact pg3 hf (hm m rfl) h1
    · exact PsOk.nil
theorem wiO_ok {B : List (Nat × Nat)} {fp : Nat} {left mid : Option Nat} {c : Int} (hB : LsOk B) (hf : isPc fp) (hm : ∀ m, mid = some m → 16777216 ≤ m ∧ m < 67108864) : PsOk (wiO B fp mid left c) := by
  unfold wiO
  split
  · exact wiF_ok hB hf hm _ _ (by omega)
  · exact PsOk.nil
theorem cstF_ok {S : ST} {ts : List Nat} {F B : List (Nat × Nat)} (h0 : ts ≠ []) (hby : EnBy S ts) (hF : LsOk F) (hB : LsOk B) : ∀ d c, PsOk (cstF S ts F B d c)
  | 0, _ => PsOk.nil
  | d + 1, c => by
    have o1 : ∀ d f, f + d ≤ F.length → PsOk (oneF S ts F c d f) := by
      intro d
      induction d with
      | zero => intro f _; exact PsOk.nil
      | succ d ih =>
        intro f hf
        unfold oneF
        refine PsOk.app ?_ (ih (f + 1) (by omega))
        split
        · exact PsOk.one (pg1 (hF _ (getD_mem2 (by omega))).1)
        · exact PsOk.nil
    have o2 : ∀ d f, f + d ≤ F.length → PsOk (twoF S ts F B c d f) := by
      intro d
      induction d with
      | zero => intro f _; exact PsOk.nil
      | succ d ih =>
        intro f hf
        unfold twoF two1
        exact PsOk.app (wiO_ok hB (hF _ (getD_mem2 (by omega))).1 (fun m hm => by cases hm)) (ih (f + 1) (by omega))
    have o3 : ∀ f, f < F.length → ∀ d m, 1 ≤ m → m + d ≤ 4 → PsOk (thrM S ts F B c f d m) := by
      intro f hf d
      induction d with
      | zero => intro m _ _; exact PsOk.nil
      | succ d ih =>
        intro m hm hm2
        unfold thrM thr1
        refine PsOk.app ?_ (ih (m + 1) (by omega) (by omega))
        split
        · rename_i w hw
          exact wiO_ok hB (hF _ (getD_mem2 hf)).1 (fun x hx => by cases hx; exact typG_pc h0 hby (by omega) hw)
        · exact PsOk.nil
    have o4 : ∀ d f, f + d ≤ F.length → PsOk (thrF S ts F B c d f) := by
      intro d
      induction d with
      | zero => intro f _; exact PsOk.nil
      | succ d ih =>
        intro f hf
        unfold thrF
        exact PsOk.app (o3 f (by omega) 3 1 (by omega) (by omega)) (ih (f + 1) (by omega))
    unfold cstF
    exact PsOk.app (PsOk.app (o1 _ _ (by omega)) (PsOk.app (o2 _ _ (by omega)) (o4 _ _ (by omega)))) (cstF_ok h0 hby hF hB d (c + 1))
theorem neA_ok {S : ST} {ts : List Nat} (h0 : ts ≠ []) (ht : TsOk S ts) (hby : EnBy S ts) : PsOk (neA S ts) := by
  intro ps hp
  unfold neA tk at hp
  rw [List.nil_append] at hp
  exact cstF_ok h0 hby (frA_ok h0 ht hby).1 (bhA_ok h0 ht hby).1 _ _ ps (List.mem_of_mem_take hp)
theorem neA_le {S : ST} {ts : List Nat} : (neA S ts).length ≤ 64 := tk_le _ _
