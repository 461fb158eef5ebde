/-! how many programs there are -/
def sumL (g : Nat × Nat → Nat) : List (Nat × Nat) → Nat
  | [] => 0
  | q :: r => g q + sumL g r
theorem sumL_cg {g h : Nat × Nat → Nat} : ∀ l, (∀ q ∈ l, g q = h q) → sumL g l = sumL h l
  | [], _ => rfl
  | q :: r, e => by
    show g q + sumL g r = h q + sumL h r
    rw [e q List.mem_cons_self, sumL_cg r (fun x hx => e x (List.mem_cons_of_mem _ hx))]
theorem sumL_app {g : Nat × Nat → Nat} : ∀ l m, sumL g (l ++ m) = sumL g l + sumL g m
  | [], m => by simp [sumL]
  | q :: r, m => by
    show g q + sumL g (r ++ m) = g q + sumL g r + sumL g m
    rw [sumL_app r m]
    omega
theorem sumL_add {g h : Nat × Nat → Nat} : ∀ l, sumL (fun q => g q + h q) l = sumL g l + sumL h l
  | [] => rfl
  | q :: r => by
    show g q + h q + sumL (fun q => g q + h q) r = g q + sumL g r + (h q + sumL h r)
    rw [sumL_add r]
    omega
theorem sumL_0 : ∀ l, sumL (fun _ => 0) l = 0
  | [] => rfl
  | q :: r => by show 0 + sumL (fun _ => 0) r = 0; rw [sumL_0 r]
theorem sumL_filter {g : Nat × Nat → Nat} {p : Nat × Nat → Bool} : ∀ l, (∀ q ∈ l, p q = false → g q = 0) → sumL g (l.filter p) = sumL g l
  | [], _ => rfl
  | q :: r, e => by
    have ih := sumL_filter (g := g) (p := p) r (fun x hx => e x (List.mem_cons_of_mem _ hx))
    rw [List.filter_cons]
    split
    · show g q + sumL g (r.filter p) = g q + sumL g r
      rw [ih]
    · rename_i h
      rw [ih]
      show sumL g r = g q + sumL g r
      rw [e q List.mem_cons_self (by simpa using h), Nat.zero_add]
theorem sumL_len {p : Nat × Nat → Bool} : ∀ l, (l.filter p).length = sumL (fun q => if p q = true then 1 else 0) l
  | [] => rfl
  | q :: r => by
    have ih := sumL_len (p := p) r
    rw [List.filter_cons]
    show _ = (if p q = true then 1 else 0) + sumL (fun q => if p q = true then 1 else 0) r
    rw [← ih]
    split
    · simp; omega
    · simp
theorem flat_len {f : Nat × Nat → List (List Nat)} : ∀ l : List (Nat × Nat), (l.flatMap f).length = sumL (fun q => (f q).length) l
  | [] => rfl
  | q :: r => by
    rw [List.flatMap_cons, List.length_append, flat_len r]
    rfl
theorem flat_filter {f : Nat × Nat → List (List Nat)} {p : Nat × Nat → Bool} : ∀ l : List (Nat × Nat), (∀ q ∈ l, p q = false → f q = []) → (l.filter p).flatMap f = l.flatMap f
  | [], _ => rfl
  | q :: r, e => by
    have ih := flat_filter (f := f) (p := p) r (fun x hx => e x (List.mem_cons_of_mem _ hx))
    rw [List.filter_cons]
    split
    · rw [List.flatMap_cons, List.flatMap_cons, ih]
    · rename_i h
      rw [ih, List.flatMap_cons, e q List.mem_cons_self (by simpa using h)]
      rfl
theorem take_s {F : List (Nat × Nat)} {f : Nat} (h : f < F.length) : F.take (f + 1) = F.take f ++ [F.getD f (0, 0)] := by
  rw [List.take_add_one, List.getD_eq_getElem?_getD, List.getElem?_eq_getElem h]
  rfl
theorem fitP_sum {S : ST} {ts : List Nat} {F B : List (Nat × Nat)} {n : Nat} : ∀ f, f ≤ F.length → fitP S ts F B n f = sumL (fun q => fT S ts B n q.2) (F.take f)
  | 0, _ => by simp [fitP, sumL]
  | f + 1, h => by
    show fitP S ts F B n f + fT S ts B n (F.getD f (0, 0)).2 = _
    rw [take_s (by omega), sumL_app, fitP_sum f (by omega)]
    show _ = _ + (fT S ts B n (F.getD f (0, 0)).2 + 0)
    omega
theorem fitN_sum {S : ST} {ts : List Nat} {n : Nat} : fitN S ts n = sumL (fun q => fT S ts (bhA S ts) n q.2) (frA S ts) := by
  unfold fitN
  rw [fitP_sum _ (Nat.le_refl _), List.take_length]
theorem all_fu {S : ST} {ts : List Nat} {L : Nat} {u : Nat → Nat} (hts : TsOk S ts) (hL : L = pkd u ts) (hu : ∀ t ∈ ts, 1 ≤ u t ∧ u t ≤ esN S t) : allG S L ts 0 = true ↔ L = fuN S ts := by
  have hes : ∀ t ∈ ts, esN S t ≤ 12 := fun t ht => (hts.2 t ht).2.2.2.2.2
  rw [allG_pk (u := u) ts 0 (by rw [hL]; simp) (fun t ht => by have := (hu t ht).2; have := hes t ht; omega), hL]
  constructor
  · exact fun h => pkd_cg ts h
  · exact fun h => pkd_inj ts (fun t ht => by have := (hu t ht).2; have := hes t ht; omega) (fun t ht => by have := hes t ht; omega) h
theorem left_fu {S : ST} {ts : List Nat} {L k : Nat} {u : Nat → Nat} (hts : TsOk S ts) (h0 : ts ≠ []) (hL : L = pkd u ts) (hu : ∀ t ∈ ts, 1 ≤ u t ∧ u t ≤ esN S t) (h : L = fuN S ts) : leftG S L k ts 0 0 = none := by
  have hes : ∀ t ∈ ts, esN S t ≤ 12 := fun t ht => (hts.2 t ht).2.2.2.2.2
  rcases e : leftG S L k ts 0 0 with _ | x
  · rfl
  · obtain ⟨a, -⟩ := (left_iff hts hL hu).mp e
    obtain ⟨t, ht⟩ := List.exists_mem_of_ne_nil ts h0
    have h : pkd u ts = pkd (esN S) ts := by rw [← hL]; exact h
    have := pkd_inj ts (fun t ht => by have := (hu t ht).2; have := hes t ht; omega) (fun t ht => by have := hes t ht; omega) h t ht
    have := a t ht
    omega
theorem whL_cnt {S : ST} {ts : List Nat} (hts : TsOk S ts) : (whL S ts (frA S ts)).length = fitN S ts 1 := by
  rw [fitN_sum]
  unfold whL
  rw [List.length_map, sumL_len]
  apply sumL_cg
  intro q hq
  obtain ⟨u, e, hu⟩ := FU_fr q hq
  have h1 := all_fu hts e hu
  unfold fT
  rw [if_pos rfl]
  by_cases h : q.2 = fuN S ts
  · rw [if_pos (by simpa using h), if_pos (h1.mpr h)]
  · rw [if_neg (by simpa using h), if_neg (fun z => h (h1.mp z))]
theorem prS_sum {LB : List (Nat × Nat)} : ∀ l, prS LB l = sumL (fun q => cntB LB q.2) l
  | [] => rfl
  | q :: r => by unfold prS sumL; rw [prS_sum r]
theorem tpS_sum {S : ST} {ts : List Nat} {LB : List (Nat × Nat)} : ∀ l, tpS S ts LB l = sumL (fun q => tsG S ts LB q.2 3) l
  | [] => rfl
  | q :: r => by unfold tpS sumL; rw [tpS_sum r]
theorem fT_2 {S : ST} {ts : List Nat} {B : List (Nat × Nat)} {L : Nat} : fT S ts B 2 L = oC B (leftG S L 0 ts 0 0) := by
  unfold fT oC
  rw [if_neg (by decide), if_pos rfl]
  rcases leftG S L 0 ts 0 0 with _ | x <;> rfl
theorem fT3_c {S : ST} {ts : List Nat} {B : List (Nat × Nat)} {L m : Nat} : fT3 S ts B L m = match typG S L m ts 0 0 with
  | some _ => oC B (leftG S L m ts 0 0)
  | none => 0 := by
  unfold fT3 oC
  rcases leftG S L m ts 0 0 with _ | x <;> rcases typG S L m ts 0 0 with _ | w <;> rfl
theorem prS_cnt {S : ST} {ts : List Nat} (hts : TsOk S ts) (h0 : ts ≠ []) (hby : EnBy S ts) : prS (LBo S ts) (FFo S ts) = fitN S ts 2 := by
  rw [fitN_sum, prS_sum]
  have e : ∀ q ∈ frA S ts, cntB (LBo S ts) q.2 = fT S ts (bhA S ts) 2 q.2 := fun q hq => by
    obtain ⟨u, e, hu⟩ := FU_fr q hq
    have := lb_cnt (k := 0) hts h0 (by omega) FU_bh (TyP_bh h0 hby) e hu
    rw [Nat.zero_mul, Nat.add_zero] at this
    rw [fT_2]
    exact this
  rw [← sumL_cg (frA S ts) e]
  refine sumL_filter _ (fun q hq hn => ?_)
  obtain ⟨u, eu, hu⟩ := FU_fr q hq
  rw [e q hq, fT_2, left_fu hts h0 eu hu (by simpa using hn)]
  rfl
theorem tr_cnt {S : ST} {ts : List Nat} (hts : TsOk S ts) (h0 : ts ≠ []) (hby : EnBy S ts) {q : Nat × Nat} (hq : q ∈ frA S ts) {k : Nat} (hk : k ≤ 3) : trN S ts (LBo S ts) q.2 k = fT3 S ts (bhA S ts) q.2 k := by
  obtain ⟨u, e, hu⟩ := FU_fr q hq
  have := lb_cnt (k := k) hts h0 hk FU_bh (TyP_bh h0 hby) e hu
  rw [fT3_c]
  unfold trN
  rcases typG S q.2 k ts 0 0 with _ | w
  · rfl
  · exact this
theorem tpS_cnt {S : ST} {ts : List Nat} (hts : TsOk S ts) (h0 : ts ≠ []) (hby : EnBy S ts) : tpS S ts (LBo S ts) (FFo S ts) = fitN S ts 3 := by
  rw [fitN_sum, tpS_sum]
  have e : ∀ q ∈ frA S ts, tsG S ts (LBo S ts) q.2 3 = fT S ts (bhA S ts) 3 q.2 := fun q hq => by
    show 0 + trN S ts (LBo S ts) q.2 1 + trN S ts (LBo S ts) q.2 2 + trN S ts (LBo S ts) q.2 3 = _
    rw [tr_cnt hts h0 hby hq (by omega), tr_cnt hts h0 hby hq (by omega), tr_cnt hts h0 hby hq (by omega), fT_3, Nat.zero_add]
  rw [← sumL_cg (frA S ts) e]
  refine sumL_filter _ (fun q hq hn => ?_)
  obtain ⟨u, eu, hu⟩ := FU_fr q hq
  have z : ∀ k, fT3 S ts (bhA S ts) q.2 k = 0 := fun k => by
    rw [fT3_c, left_fu hts h0 eu hu (by simpa using hn)]
    rcases typG S q.2 k ts 0 0 with _ | w <;> rfl
  rw [e q hq, fT_3, z, z, z]
/-- a sum over costs -/
def sm (f : Nat → Nat) : Nat → Nat → Nat
  | 0, _ => 0
  | d + 1, c => f c + sm f d (c + 1)
theorem sm_add {f g : Nat → Nat} : ∀ d c, sm (fun c => f c + g c) d c = sm f d c + sm g d c
  | 0, _ => rfl
  | d + 1, c => by
    show f c + g c + sm (fun c => f c + g c) d (c + 1) = f c + sm f d (c + 1) + (g c + sm g d (c + 1))
    rw [sm_add d (c + 1)]
    omega
theorem sm_cg {f g : Nat → Nat} (h : ∀ c, f c = g c) : ∀ d c, sm f d c = sm g d c
  | 0, _ => rfl
  | d + 1, c => by
    show f c + sm f d (c + 1) = g c + sm g d (c + 1)
    rw [h, sm_cg h d (c + 1)]
theorem sm_0 : ∀ d c, sm (fun _ => 0) d c = 0
  | 0, _ => rfl
  | d + 1, c => by show 0 + sm (fun _ => 0) d (c + 1) = 0; rw [sm_0 d (c + 1)]
theorem sm_1 {w : Nat} : ∀ d c, sm (fun c' => if c' = w then 1 else 0) d c = if c ≤ w ∧ w < c + d then 1 else 0
  | 0, c => by
    rw [if_neg (by omega)]
    rfl
  | d + 1, c => by
    show (if c = w then 1 else 0) + sm (fun c' => if c' = w then 1 else 0) d (c + 1) = _
    rw [sm_1 d (c + 1)]
    by_cases h1 : c = w
    · rw [if_pos h1, if_neg (by omega), if_pos (by omega)]
    · rw [if_neg h1]
      by_cases h2 : c + 1 ≤ w ∧ w < c + 1 + d
      · rw [if_pos h2, if_pos (by omega)]
      · rw [if_neg h2, if_neg (by omega)]
theorem sm_sum {h : Nat → Nat × Nat → Nat} (d c : Nat) : ∀ l, sm (fun c => sumL (h c) l) d c = sumL (fun q => sm (fun c => h c q) d c) l
  | [] => sm_0 d c
  | q :: r => by
    show sm (fun c => h c q + sumL (h c) r) d c = sm (fun c => h c q) d c + sumL (fun q => sm (fun c => h c q) d c) r
    rw [sm_add, sm_sum d c r]
theorem wi_sm {B : List (Nat × Nat)} {fp k : Nat} {mid : Option Nat} {left : Option Nat} (hp : ∀ q ∈ B, isPc q.1) (hk : k ≤ 10) : sm (fun c => (wiO B fp mid left ((c : Int) - k)).length) 13 3 = oC B left := by
  rcases left with _ | x
  · exact sm_0 13 3
  · have e : ∀ c : Nat, (wiO B fp mid (some x) ((c : Int) - k)).length = sumL (fun q => if (q.2 == x && decide ((costN q.1 : Int) = (c : Int) - k)) = true then 1 else 0) B := fun c => by
      show (wiF B fp mid x ((c : Int) - k) B.length 0).length = _
      rw [wiF_l _ 0 (by omega), List.drop_zero, List.length_map, sumL_len]
    rw [sm_cg e, sm_sum]
    show _ = cntB B x
    unfold cntB
    rw [sumL_len]
    apply sumL_cg
    intro q hq
    have hc := cost_b (hp q hq)
    by_cases h : q.2 = x
    · rw [if_pos (by simpa using h)]
      have e2 : ∀ c : Nat, (if (q.2 == x && decide ((costN q.1 : Int) = (c : Int) - k)) = true then 1 else 0) = if c = costN q.1 + k then 1 else 0 := fun c => by
        by_cases z : c = costN q.1 + k
        · rw [if_pos z, if_pos (by simp only [Bool.and_eq_true, beq_iff_eq, decide_eq_true_eq]; exact ⟨h, by omega⟩)]
        · rw [if_neg z, if_neg (by simp only [Bool.and_eq_true, beq_iff_eq, decide_eq_true_eq]; exact fun y => z (by omega))]
      rw [sm_cg e2, sm_1, if_pos (by omega)]
    · rw [if_neg (by simpa using h)]
      have e2 : ∀ c : Nat, (if (q.2 == x && decide ((costN q.1 : Int) = (c : Int) - k)) = true then 1 else 0) = 0 := fun c => by
        rw [if_neg (by simp only [Bool.and_eq_true, beq_iff_eq]; exact fun y => h y.1)]
      rw [sm_cg e2, sm_0]
theorem cst_sm {S : ST} {ts : List Nat} {F B : List (Nat × Nat)} : ∀ d c, (cstF S ts F B d c).length = sm (fun c => (oneF S ts F c F.length 0).length + ((twoF S ts F B c F.length 0).length + (thrF S ts F B c F.length 0).length)) d c
  | 0, _ => rfl
  | d + 1, c => by
    show ((oneF S ts F c F.length 0 ++ (twoF S ts F B c F.length 0 ++ thrF S ts F B c F.length 0)) ++ cstF S ts F B d (c + 1)).length = _
    rw [List.length_append, List.length_append, List.length_append, cst_sm d (c + 1)]
    rfl
/-- all programs are ranked -/
theorem cst_all {S : ST} {ts : List Nat} (hts : TsOk S ts) (h0 : ts ≠ []) (hby : EnBy S ts) : (cstF S ts (frA S ts) (bhA S ts) 13 3).length = fitN S ts 1 + (fitN S ts 2 + fitN S ts 3) := by
  have hpF := (frA_ok h0 hts hby).1
  have hpB := (bhA_ok h0 hts hby).1
  have hpB : ∀ q ∈ bhA S ts, isPc q.1 := fun q hq => (hpB q hq).1
  rw [cst_sm, sm_add, sm_add, fitN_sum, fitN_sum, fitN_sum]
  congr 1
  · have e : ∀ c, (oneF S ts (frA S ts) c (frA S ts).length 0).length = sumL (fun q => if (allG S q.2 ts 0 && costN q.1 == c) = true then 1 else 0) (frA S ts) := fun c => by
      rw [oneF_l _ 0 (by omega), List.drop_zero, List.length_map, sumL_len]
    rw [sm_cg e, sm_sum]
    apply sumL_cg
    intro q hq
    have hc := cost_b (hpF q hq).1
    unfold fT
    rw [if_pos rfl]
    by_cases h : allG S q.2 ts 0 = true
    · rw [if_pos h]
      have e2 : ∀ c : Nat, (if (allG S q.2 ts 0 && costN q.1 == c) = true then 1 else 0) = if c = costN q.1 then 1 else 0 := fun c => by
        by_cases z : c = costN q.1
        · rw [if_pos z, if_pos (by simp only [Bool.and_eq_true, beq_iff_eq]; exact ⟨h, z.symm⟩)]
        · rw [if_neg z, if_neg (by simp only [Bool.and_eq_true, beq_iff_eq]; exact fun y => z y.2.symm)]
      rw [sm_cg e2, sm_1, if_pos (by omega)]
    · rw [if_neg h]
      have e2 : ∀ c : Nat, (if (allG S q.2 ts 0 && costN q.1 == c) = true then 1 else 0) = 0 := fun c => by
        rw [if_neg (by simp only [Bool.and_eq_true]; exact fun y => h y.1)]
      rw [sm_cg e2, sm_0]
  · congr 1
    · have e : ∀ c, (twoF S ts (frA S ts) (bhA S ts) c (frA S ts).length 0).length = sumL (fun q => (two1q S ts (bhA S ts) c q).length) (frA S ts) := fun c => by
        rw [twoF_l _ 0 (by omega), List.drop_zero, flat_len]
      rw [sm_cg e, sm_sum]
      apply sumL_cg
      intro q hq
      have hc := cost_b (hpF q hq).1
      rw [fT_2]
      exact wi_sm hpB (by omega)
    · have e : ∀ c, (thrF S ts (frA S ts) (bhA S ts) c (frA S ts).length 0).length = sumL (fun q => (thr1q S ts (bhA S ts) c 1 q).length + ((thr1q S ts (bhA S ts) c 2 q).length + (thr1q S ts (bhA S ts) c 3 q).length)) (frA S ts) := fun c => by
        rw [thrF_l _ 0 (by omega), List.drop_zero, flat_len]
        apply sumL_cg
        intro q _
        unfold thrMq
        rw [List.length_append, List.length_append, List.length_append]
        rfl
      rw [sm_cg e, sm_sum]
      apply sumL_cg
      intro q hq
      have hc := cost_b (hpF q hq).1
      have e3 : ∀ m, 1 ≤ m → m ≤ 3 → sm (fun c => (thr1q S ts (bhA S ts) c m q).length) 13 3 = fT3 S ts (bhA S ts) q.2 m := fun m h1 h2 => by
        rw [fT3_c]
        unfold thr1q
        rcases typG S q.2 m ts 0 0 with _ | w
        · exact sm_0 13 3
        · have e4 : ∀ c : Nat, (wiO (bhA S ts) q.1 (some w) (leftG S q.2 m ts 0 0) ((c : Int) - costN q.1 - 2 - m)).length = (wiO (bhA S ts) q.1 (some w) (leftG S q.2 m ts 0 0) ((c : Int) - ((costN q.1 + 2 + m : Nat) : Int))).length := fun c => by
            congr 2
            omega
          rw [sm_cg e4]
          exact wi_sm hpB (by omega)
      rw [sm_add, sm_add, e3 1 (by omega) (by omega), e3 2 (by omega) (by omega), e3 3 (by omega) (by omega), fT_3]
      omega
