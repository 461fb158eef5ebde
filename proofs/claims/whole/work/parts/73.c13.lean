/-! what Fit counts and ranks is what the reference counts and ranks -/
theorem dropP {F : List (Nat × Nat)} {f : Nat} (h : f < F.length) : F.drop f = F.getD f (0, 0) :: F.drop (f + 1) := by
  rw [List.drop_eq_getElem_cons h, List.getD_eq_getElem?_getD, List.getElem?_eq_getElem h]
  rfl
def wiQ (fp : Nat) (mid : Option Nat) (l : Nat) : List Nat := match mid with
  | none => [fp, l]
  | some m => [fp, m, l]
theorem wiF_l {B : List (Nat × Nat)} {fp : Nat} {mid : Option Nat} {left : Nat} {c : Int} : ∀ d b, b + d = B.length → wiF B fp mid left c d b = ((B.drop b).filter (fun q => q.2 == left && decide ((costN q.1 : Int) = c))).map (fun q => wiQ fp mid q.1)
  | 0, b, h => by rw [List.drop_eq_nil_of_le (by omega)]; rfl
  | d + 1, b, h => by
    unfold wiF
    rw [wiF_l d (b + 1) (by omega), dropP (f := b) (by omega), List.filter_cons]
    by_cases e : (B.getD b (0, 0)).2 = left ∧ (costN (B.getD b (0, 0)).1 : Int) = c
    · rw [if_pos e, if_pos (by simp only [Bool.and_eq_true, beq_iff_eq, decide_eq_true_eq]; exact e)]
      cases mid <;> rfl
    · rw [if_neg e, if_neg (by simp only [Bool.and_eq_true, beq_iff_eq, decide_eq_true_eq]; exact e)]
      rfl
theorem mt_l {B : List (Nat × Nat)} {x c : Nat} : ∀ d i, i + d = B.length → mt B x c d i = ((B.drop i).filter (fun q => q.2 == x && costN q.1 == c)).map Prod.fst
  | 0, b, h => by rw [List.drop_eq_nil_of_le (by omega)]; rfl
  | d + 1, b, h => by
    unfold mt
    rw [mt_l d (b + 1) (by omega), dropP (f := b) (by omega), List.filter_cons]
    by_cases e : (B.getD b (0, 0)).2 = x ∧ costN (B.getD b (0, 0)).1 = c
    · rw [if_pos e, if_pos (by simp only [Bool.and_eq_true, beq_iff_eq]; exact e)]
      rfl
    · rw [if_neg e, if_neg (by simp only [Bool.and_eq_true, beq_iff_eq]; exact e)]
theorem oneF_l {S : ST} {ts : List Nat} {F : List (Nat × Nat)} {c : Nat} : ∀ d f, f + d = F.length → oneF S ts F c d f = ((F.drop f).filter (fun q => allG S q.2 ts 0 && costN q.1 == c)).map (fun q => [q.1])
  | 0, b, h => by rw [List.drop_eq_nil_of_le (by omega)]; rfl
  | d + 1, b, h => by
    unfold oneF
    rw [oneF_l d (b + 1) (by omega), dropP (f := b) (by omega), List.filter_cons]
    by_cases e : allG S (F.getD b (0, 0)).2 ts 0 = true ∧ costN (F.getD b (0, 0)).1 = c
    · rw [if_pos e, if_pos (by simp only [Bool.and_eq_true, beq_iff_eq]; exact e)]
      rfl
    · rw [if_neg e, if_neg (by simp only [Bool.and_eq_true, beq_iff_eq]; exact e)]
      rfl
def two1q (S : ST) (ts : List Nat) (B : List (Nat × Nat)) (c : Nat) (q : Nat × Nat) : List (List Nat) := wiO B q.1 none (leftG S q.2 0 ts 0 0) ((c : Int) - costN q.1)
def thr1q (S : ST) (ts : List Nat) (B : List (Nat × Nat)) (c m : Nat) (q : Nat × Nat) : List (List Nat) := match typG S q.2 m ts 0 0 with
  | some w => wiO B q.1 (some w) (leftG S q.2 m ts 0 0) ((c : Int) - costN q.1 - 2 - m)
  | none => []
def thrMq (S : ST) (ts : List Nat) (B : List (Nat × Nat)) (c : Nat) (q : Nat × Nat) : List (List Nat) := thr1q S ts B c 1 q ++ (thr1q S ts B c 2 q ++ (thr1q S ts B c 3 q ++ []))
theorem twoF_l {S : ST} {ts : List Nat} {F B : List (Nat × Nat)} {c : Nat} : ∀ d f, f + d = F.length → twoF S ts F B c d f = (F.drop f).flatMap (two1q S ts B c)
  | 0, b, h => by rw [List.drop_eq_nil_of_le (by omega)]; rfl
  | d + 1, b, h => by
    unfold twoF
    rw [twoF_l d (b + 1) (by omega), dropP (f := b) (by omega), List.flatMap_cons]
    rfl
theorem thr1_q {S : ST} {ts : List Nat} {F B : List (Nat × Nat)} {c f m : Nat} : thr1 S ts F B c f m = thr1q S ts B c m (F.getD f (0, 0)) := by
  unfold thr1 thr1q
  rfl
theorem thrF_l {S : ST} {ts : List Nat} {F B : List (Nat × Nat)} {c : Nat} : ∀ d f, f + d = F.length → thrF S ts F B c d f = (F.drop f).flatMap (thrMq S ts B c)
  | 0, b, h => by rw [List.drop_eq_nil_of_le (by omega)]; rfl
  | d + 1, b, h => by
    unfold thrF
    rw [thrF_l d (b + 1) (by omega), dropP (f := b) (by omega), List.flatMap_cons]
    congr 1
/-- typed last pieces go as far as they have bytes -/
def TyP (ts : List Nat) (B : List (Nat × Nat)) : Prop := ∀ q ∈ B, q.1 < 16777216 ∨ (q.1 / 16777216 ≤ 3 ∧ q.2 = pkd (fun _ => q.1 / 16777216) ts)
theorem pcF_fst {S : ST} {ts : List Nat} {bh : Bool} : ∀ c, ∀ q ∈ pcF S ts bh c, q.1 < c
  | 0, q, hq => by cases hq
  | c + 1, q, hq => by
    have hq : q ∈ oApp (pcF S ts bh c) c (longF S ts c bh) := hq
    rcases e : longF S ts c bh with _ | L
    · rw [e] at hq
      have := pcF_fst c q hq
      omega
    · rw [e] at hq
      rcases List.mem_append.mp hq with z | z
      · have := pcF_fst c q z
        omega
      · rw [List.mem_singleton] at z
        subst z
        show c < c + 1
        omega
theorem TyP_bhT {S : ST} {ts : List Nat} (h0 : ts ≠ []) (hby : EnBy S ts) : ∀ d m F, 1 ≤ m → m + d ≤ 4 → TyP ts F → TyP ts (bhT S ts d m F)
  | 0, _, _, _, _, h => h
  | d + 1, m, F, hm, hm2, h => by
    refine TyP_bhT h0 hby d (m + 1) _ (by omega) (by omega) ?_
    rcases e : tyB S ts m with _ | p
    · exact h
    · intro q hq
      rcases List.mem_append.mp hq with z | z
      · exact h q z
      · rw [List.mem_singleton] at z
        subst z
        have hd : p / 16777216 = m := by
          unfold tyB at e
          split at e
          · exact typG_div (by omega) ts 0 0 p hby (fun z => absurd z h0) e
          · cases e
        refine Or.inr ⟨by show p / 16777216 ≤ 3; omega, ?_⟩
        show onG m ts 0 0 = pkd (fun _ => p / 16777216) ts
        rw [hd, onG_pk]
        simp
theorem TyP_bh {S : ST} {ts : List Nat} (h0 : ts ≠ []) (hby : EnBy S ts) : TyP ts (bhA S ts) := TyP_bhT h0 hby 3 1 _ (by omega) (by omega) (fun q hq => Or.inl (by have := pcF_fst 4800 q hq; omega))
theorem left_iff {S : ST} {ts : List Nat} {L k x : Nat} {u : Nat → Nat} (hts : TsOk S ts) (hL : L = pkd u ts) (hu : ∀ t ∈ ts, 1 ≤ u t ∧ u t ≤ esN S t) : leftG S L k ts 0 0 = some x ↔ (∀ t ∈ ts, u t + k < esN S t) ∧ x = pkd (fun t => esN S t - u t - k) ts := by
  have hb : ∀ t ∈ ts, u t ≤ 15 := fun t ht => by have := (hu t ht).2; have := (hts.2 t ht).2.2.2.2.2; omega
  have hL0 : L / 2 ^ (4 * 0) = pkd u ts := by rw [hL]; simp
  by_cases a : ∀ t ∈ ts, u t + k < esN S t
  · rw [leftG_some ts 0 0 hL0 hb a]
    constructor
    · intro h
      refine ⟨a, ?_⟩
      have := Option.some.inj h
      rw [← this]
      simp
    · intro h
      rw [h.2]
      simp
  · rw [leftG_none ts 0 0 hL0 hb a]
    exact ⟨fun h => (by cases h), fun h => absurd h.1 a⟩
/-- the last pieces that begin where a first one stops -/
theorem lb_some {S : ST} {ts : List Nat} {B : List (Nat × Nat)} {L k x : Nat} {u : Nat → Nat} (hts : TsOk S ts) (h0 : ts ≠ []) (hB : FU S ts B) (hT : TyP ts B) (hL : L = pkd u ts) (hu : ∀ t ∈ ts, 1 ≤ u t ∧ u t ≤ esN S t) (hx : leftG S L k ts 0 0 = some x) : (lbL S ts B).filter (fun q => q.2 == L + k * stpN ts) = (B.filter (fun q => q.2 == x)).map (fun q => (q.1, fuN S ts - q.2)) := by
  obtain ⟨a, hx⟩ := (left_iff hts hL hu).mp hx
  have hes : ∀ t ∈ ts, esN S t ≤ 12 := fun t ht => (hts.2 t ht).2.2.2.2.2
  unfold lbL
  rw [List.filter_map, List.filter_filter]
  congr 1
  apply List.filter_congr
  intro q hq
  obtain ⟨w, e, hw⟩ := hB q hq
  have e1 : fuN S ts - q.2 = pkd (fun t => esN S t - w t) ts := by rw [e]; exact (pkd_sub ts (fun t ht => (hw t ht).2)).1
  rw [Bool.eq_iff_iff]
  simp only [Function.comp, Bool.and_eq_true, beq_iff_eq]
  rw [e1, hL, pkd_k]
  constructor
  · intro h
    have hi := pkd_inj ts (fun t ht => by have := hes t ht; omega) (fun t ht => by have := hes t ht; have := a t ht; omega) h.1
    rw [e, hx]
    exact pkd_cg ts (fun t ht => by have := hi t ht; have := (hw t ht).2; have := a t ht; omega)
  · intro h
    rw [e, hx] at h
    have hi := pkd_inj ts (fun t ht => by have := (hw t ht).2; have := hes t ht; omega) (fun t ht => by have := hes t ht; omega) h
    refine ⟨pkd_cg ts (fun t ht => by have := hi t ht; have := a t ht; omega), ?_⟩
    obtain ⟨t0, ht0⟩ := List.exists_mem_of_ne_nil ts h0
    unfold okB
    split
    · have hne : ¬ q.2 = fuN S ts := by
        intro z
        rw [e] at z
        have hj := pkd_inj ts (fun t ht => by have := (hw t ht).2; have := hes t ht; omega) (fun t ht => by have := hes t ht; omega) z t0 ht0
        have := hi t0 ht0
        have := hu t0 ht0
        have := a t0 ht0
        omega
      simp [hne]
    · rename_i hn
      rcases hT q hq with z | z
      · exact absurd z hn
      · rw [decide_eq_true_eq, mnG_iff]
        refine ⟨by have := z.1; omega, fun t ht => ?_⟩
        have z2 := z.2
        rw [e] at z2
        have hj := pkd_inj ts (fun t ht => by have := (hw t ht).2; have := hes t ht; omega) (fun t ht => by have := z.1; omega) z2 t ht
        have := hi t ht
        have := hu t ht
        have := a t ht
        omega
theorem lb_none {S : ST} {ts : List Nat} {B : List (Nat × Nat)} {L k : Nat} {u : Nat → Nat} (hts : TsOk S ts) (hk : k ≤ 3) (hB : FU S ts B) (hL : L = pkd u ts) (hu : ∀ t ∈ ts, 1 ≤ u t ∧ u t ≤ esN S t) (hx : leftG S L k ts 0 0 = none) : (lbL S ts B).filter (fun q => q.2 == L + k * stpN ts) = [] := by
  have hes : ∀ t ∈ ts, esN S t ≤ 12 := fun t ht => (hts.2 t ht).2.2.2.2.2
  rw [List.filter_eq_nil_iff]
  intro q hq
  obtain ⟨q', hq', rfl⟩ := List.mem_map.mp hq
  have hq' := (List.mem_filter.mp hq').1
  obtain ⟨w, e, hw⟩ := hB q' hq'
  have e1 : fuN S ts - q'.2 = pkd (fun t => esN S t - w t) ts := by rw [e]; exact (pkd_sub ts (fun t ht => (hw t ht).2)).1
  simp only [beq_iff_eq]
  intro h
  rw [e1, hL, pkd_k] at h
  have hi := pkd_inj ts (fun t ht => by have := hes t ht; omega) (fun t ht => by have := hes t ht; have := (hu t ht).2; omega) h
  have a : ∀ t ∈ ts, u t + k < esN S t := fun t ht => by have := hi t ht; have := hw t ht; have := (hts.2 t ht).2.2.2.2.1; omega
  have := (left_iff (k := k) hts hL hu).mpr ⟨a, rfl⟩
  rw [hx] at this
  cases this
def oC (B : List (Nat × Nat)) (o : Option Nat) : Nat := match o with
  | some x => cntB B x
  | none => 0
theorem lb_cnt {S : ST} {ts : List Nat} {B : List (Nat × Nat)} {L k : Nat} {u : Nat → Nat} (hts : TsOk S ts) (h0 : ts ≠ []) (hk : k ≤ 3) (hB : FU S ts B) (hT : TyP ts B) (hL : L = pkd u ts) (hu : ∀ t ∈ ts, 1 ≤ u t ∧ u t ≤ esN S t) : cntB (lbL S ts B) (L + k * stpN ts) = oC B (leftG S L k ts 0 0) := by
  unfold cntB oC
  rcases hx : leftG S L k ts 0 0 with _ | x
  · rw [lb_none hts hk hB hL hu hx]
    rfl
  · rw [lb_some hts h0 hB hT hL hu hx, List.length_map]
    rfl
theorem cost_b {p : Nat} (h : isPc p) : 3 ≤ costN p ∧ costN p ≤ 5 := by
  unfold costN
  rcases h with h | h
  · rw [if_neg (by omega)]; split <;> omega
  · rw [if_pos (by omega)]; omega
/-- the last pieces of a cost that begin at x -/
def mtI (LB : List (Nat × Nat)) (x : Nat) (c : Int) : List Nat := if 3 ≤ c ∧ c ≤ 5 then mt LB x c.toNat LB.length 0 else []
theorem mtI_wi {S : ST} {ts : List Nat} {B : List (Nat × Nat)} {L k fp : Nat} {mid : Option Nat} {c : Int} {u : Nat → Nat} (hts : TsOk S ts) (h0 : ts ≠ []) (hk : k ≤ 3) (hB : FU S ts B) (hT : TyP ts B) (hp : ∀ q ∈ B, isPc q.1) (hL : L = pkd u ts) (hu : ∀ t ∈ ts, 1 ≤ u t ∧ u t ≤ esN S t) : (mtI (lbL S ts B) (L + k * stpN ts) c).map (wiQ fp mid) = wiO B fp mid (leftG S L k ts 0 0) c := by
  have hm : ∀ c : Nat, mt (lbL S ts B) (L + k * stpN ts) c (lbL S ts B).length 0 = (((lbL S ts B).filter (fun q => q.2 == L + k * stpN ts)).filter (fun q => costN q.1 == c)).map Prod.fst := fun c => by
    rw [mt_l _ 0 (by omega), List.drop_zero, List.filter_filter]
    congr 1
    apply List.filter_congr
    intro q _
    exact Bool.and_comm _ _
  unfold mtI
  rcases hx : leftG S L k ts 0 0 with _ | x
  · split
    · rw [hm, lb_none hts hk hB hL hu hx]
      rfl
    · rfl
  · show _ = wiF B fp mid x c B.length 0
    rw [wiF_l _ 0 (by omega), List.drop_zero]
    split
    · rename_i hc
      rw [hm, lb_some hts h0 hB hT hL hu hx, List.filter_map, List.filter_filter, List.map_map, List.map_map]
      have e : B.filter (fun a => ((fun q : Nat × Nat => costN q.1 == c.toNat) ∘ fun q => (q.1, fuN S ts - q.2)) a && a.2 == x) = B.filter (fun q => q.2 == x && decide ((costN q.1 : Int) = c)) := by
        apply List.filter_congr
        intro q _
        rw [Bool.eq_iff_iff]
        simp only [Function.comp, Bool.and_eq_true, beq_iff_eq, decide_eq_true_eq]
        omega
      rw [e]
      rfl
    · rename_i hc
      rw [List.filter_eq_nil_iff.mpr ?_]
      · rfl
      · intro q hq
        have := cost_b (hp q hq)
        simp only [Bool.and_eq_true, decide_eq_true_eq]
        omega
