/-! the model: findNearest's lists, and its loops -/
/-- what the shown things are is the same -/
def SpE (S S' : ST) : Prop := S'.1 389 13 = S.1 389 13 ∧ ∀ a, a = 390 ∨ a = 391 ∨ a = 393 ∨ a = 394 ∨ a = 398 → ∀ j, S'.2.1 a j = S.2.1 a j
theorem SpE_n {S S' : ST} (h : Fr nX nA S S') : SpE S S' := ⟨h.1 389 13 (by omega), fun a ha => h.2.1 a (by omega)⟩
theorem SpE_p {S S' : ST} (h : Fr pX pA S S') : SpE S S' := ⟨h.1 389 13 (by omega), fun a ha => h.2.1 a (by omega)⟩
theorem esN_e {S S' : ST} (h : SpE S S') (t : Nat) : esN S' t = esN S t := by unfold esN; rw [h.2 394 (by omega)]
theorem szN_e {S S' : ST} (h : SpE S S') (t : Nat) : szN S' t = szN S t := by unfold szN; rw [h.2 391 (by omega)]
theorem enB_e {S S' : ST} (h : SpE S S') (t : Nat) : enB S' t = enB S t := by funext j; exact h.2 393 (by omega) _
theorem lnB_e {S S' : ST} (h : SpE S S') (t : Nat) : lnB S' t = lnB S t := by funext j; exact h.2 390 (by omega) _
theorem TsOk_e {S S' : ST} (h : SpE S S') {ts : List Nat} (ht : TsOk S ts) : TsOk S' ts := by
  refine ⟨ht.1, fun t q => ?_⟩
  have e := ht.2 t q
  rw [h.2 391 (by omega), h.2 394 (by omega), esN_e h, szN_e h]
  exact e
theorem ShIs_e {S S' : ST} (h : SpE S S') {ts : List Nat} (ht : ShIs S ts) : ShIs S' ts := ⟨h.1.trans ht.1, fun k hk => (h.2 398 (by omega) k).trans (ht.2 k hk)⟩
theorem EnBy_e {S S' : ST} (h : SpE S S') {ts : List Nat} (ht : EnBy S ts) : EnBy S' ts := by
  intro t q j hj
  rw [esN_e h] at hj
  rw [enB_e h]
  exact ht t q j hj
theorem allG_e {S S' : ST} (h : SpE S S') (n : Nat) : ∀ (r : List Nat) (k : Nat), allG S' n r k = allG S n r k
  | [], _ => rfl
  | t :: r, k => by unfold allG; rw [esN_e h, allG_e h n r]
theorem leftG_e {S S' : ST} (h : SpE S S') (n m : Nat) : ∀ (r : List Nat) (k acc : Nat), leftG S' n m r k acc = leftG S n m r k acc
  | [], _, _ => rfl
  | t :: r, k, acc => by unfold leftG; rw [esN_e h, leftG_e h n m r]
theorem typN_e {S S' : ST} (h : SpE S S') (t f : Nat) : ∀ (d i acc : Nat), typN S' t f d i acc = typN S t f d i acc
  | 0, _, _ => rfl
  | d + 1, i, acc => by unfold typN; rw [enB_e h, typN_e h t f d]
theorem typG_e {S S' : ST} (h : SpE S S') (n q : Nat) : ∀ (r : List Nat) (k f : Nat), typG S' n q r k f = typG S n q r k f
  | [], _, _ => rfl
  | t :: r, k, f => by unfold typG; rw [esN_e h, typN_e h, typG_e h n q r]
/-- programs of one piece, of two, of three, of the cost c: from the front f on -/
def oneF (S : ST) (ts : List Nat) (F : List (Nat × Nat)) (c : Nat) : Nat → Nat → List (List Nat)
  | 0, _ => []
  | d + 1, f => (if allG S (F.getD f (0, 0)).2 ts 0 = true ∧ costN (F.getD f (0, 0)).1 = c then [[(F.getD f (0, 0)).1]] else []) ++ oneF S ts F c d (f + 1)
def two1 (S : ST) (ts : List Nat) (F B : List (Nat × Nat)) (c f : Nat) : List (List Nat) := wiO B (F.getD f (0, 0)).1 none (leftG S (F.getD f (0, 0)).2 0 ts 0 0) ((c : Int) - costN (F.getD f (0, 0)).1)
def twoF (S : ST) (ts : List Nat) (F B : List (Nat × Nat)) (c : Nat) : Nat → Nat → List (List Nat)
  | 0, _ => []
  | d + 1, f => two1 S ts F B c f ++ twoF S ts F B c d (f + 1)
def thr1 (S : ST) (ts : List Nat) (F B : List (Nat × Nat)) (c f m : Nat) : List (List Nat) := match typG S (F.getD f (0, 0)).2 m ts 0 0 with
  | some w => wiO B (F.getD f (0, 0)).1 (some w) (leftG S (F.getD f (0, 0)).2 m ts 0 0) ((c : Int) - costN (F.getD f (0, 0)).1 - 2 - m)
  | none => []
def thrM (S : ST) (ts : List Nat) (F B : List (Nat × Nat)) (c f : Nat) : Nat → Nat → List (List Nat)
  | 0, _ => []
  | d + 1, m => thr1 S ts F B c f m ++ thrM S ts F B c f d (m + 1)
def thrF (S : ST) (ts : List Nat) (F B : List (Nat × Nat)) (c : Nat) : Nat → Nat → List (List Nat)
  | 0, _ => []
  | d + 1, f => thrM S ts F B c f 3 1 ++ thrF S ts F B c d (f + 1)
def cstF (S : ST) (ts : List Nat) (F B : List (Nat × Nat)) : Nat → Nat → List (List Nat)
  | 0, _ => []
  | d + 1, c => (oneF S ts F c F.length 0 ++ (twoF S ts F B c F.length 0 ++ thrF S ts F B c F.length 0)) ++ cstF S ts F B d (c + 1)
/-- the nearest programs, in order -/
def neA (S : ST) (ts : List Nat) : List (List Nat) := tk [] (cstF S ts (frA S ts) (bhA S ts) 13 3)
section M27
variable {sc : SC} {S : ST} {Q : Option AV → HM → Prop}
theorem costN_lt {p : Nat} (h : p < 67108864) : costN p ≤ 6 := by unfold costN; split <;> (try split) <;> omega
/-- what stands when the pieces are found -/
def PcOk (S : ST) (ts : List Nat) (F B : List (Nat × Nat)) : Prop := TsOk S ts ∧ ShIs S ts ∧ EnBy S ts ∧ FrIs S F ∧ BhL S B ∧ BhC S B ∧ F.length ≤ 4803 ∧ B.length ≤ 4803 ∧ (∀ i, i < F.length → (F.getD i (0, 0)).1 < 67108864 ∧ (F.getD i (0, 0)).2 < 65536) ∧ ∀ i, i < B.length → (B.getD i (0, 0)).1 < 67108864 ∧ (B.getD i (0, 0)).2 < 65536
theorem PcOk_n {S S' : ST} {ts : List Nat} {F B : List (Nat × Nat)} (h : Fr nX nA S S') (hp : PcOk S ts F B) : PcOk S' ts F B := by
  obtain ⟨a1, a2, a3, a4, a5, a6, a7, a8, a9, a10⟩ := hp
  exact ⟨TsOk_e (SpE_n h) a1, ShIs_e (SpE_n h) a2, EnBy_e (SpE_n h) a3, FrIs_k a4 (h.1 389 15 (by omega)) (h.2.1 399 (by omega)) (h.2.1 400 (by omega)), BhL_k a5 (h.1 389 18 (by omega)) (h.2.1 401 (by omega)) (h.2.1 402 (by omega)), BhC_k a6 (h.2.1 403 (by omega)), a7, a8, a9, a10⟩
set_option maxRecDepth 100000 in
set_option maxHeartbeats 4000000 in
theorem nearest_lp1 {S0 : ST} {ts : List Nat} {F B : List (Nat × Nat)} {c : Nat} {o3 o4 : Option AV} (hp : PcOk S0 ts F B) (hc : c ≤ 15) :
    ∀ (d f : Nat) (S : ST) (N : List (List Nat)), f + d = F.length → Fr nX nA S0 S → NeIs S N → (∀ S', Fr nX nA S0 S' → NeIs S' (tk N (oneF S0 ts F c d f)) → G sc mX10_findNearest 85 [some (aR 389), some (aI (nI c)), some (aI (nI F.length)), o3, o4] [] (mk S') Q) →
      G sc mX10_findNearest 33 [some (aR 389), some (aI (nI c)), some (aI (nI f)), o3, o4] [] (mk S) Q := by
  intro d
  induction d with
  | zero =>
    intro f S N hf hFr hN h
    obtain ⟨a1, a2, a3, a4, a5, a6, a7, a8, a9, a10⟩ := PcOk_n hFr hp
    have e : f = F.length := by omega
    subst e
    refine G_iload_n (pc := 33) dX10_findNearest_33 rfl rfl ?_
    refine G_aload_n (pc := 34) dX10_findNearest_34 rfl rfl ?_
    refine S_getI (pc := 35) dX10_findNearest_35 fX10_175 rfl (by first | rfl | assumption) rfl ?_
    rw [a4.1]
    refine N_icmp_ge (pc := 38) (tgt := 85) dX10_findNearest_38 (by decide) (by omega) (fun c38 => ?_) (fun c38 => absurd c38 (by omega))
    exact h S hFr (by rw [show oneF S0 ts F c 0 F.length = [] from rfl, tk_nil hN.1]; exact hN)
  | succ d ih =>
    intro f S N hf hFr hN h
    obtain ⟨a1, a2, a3, a4, a5, a6, a7, a8, a9, a10⟩ := PcOk_n hFr hp
    have hq := a4.2 f (by omega)
    have hb := a9 f (by omega)
    have hcc := costN_lt hb.1
    have e0 : oneF S0 ts F c (d + 1) f = (if allG S0 (F.getD f (0, 0)).2 ts 0 = true ∧ costN (F.getD f (0, 0)).1 = c then [[(F.getD f (0, 0)).1]] else []) ++ oneF S0 ts F c d (f + 1) := rfl
    refine G_iload_n (pc := 33) dX10_findNearest_33 rfl rfl ?_
    refine G_aload_n (pc := 34) dX10_findNearest_34 rfl rfl ?_
    refine S_getI (pc := 35) dX10_findNearest_35 fX10_175 rfl (by first | rfl | assumption) rfl ?_
    rw [a4.1]
    refine N_icmp_ge (pc := 38) (tgt := 85) dX10_findNearest_38 (by decide) (by omega) (fun c38 => absurd c38 (by omega)) (fun c38 => ?_)
    refine G_aload_n (pc := 41) dX10_findNearest_41 rfl rfl ?_
    refine G_aload_n (pc := 42) dX10_findNearest_42 rfl rfl ?_
    refine S_getR (pc := 43) (b := 400) dX10_findNearest_43 fX10_40 rfl rfl (by first | rfl | assumption) rfl rfl ?_
    refine G_iload_n (pc := 46) dX10_findNearest_46 rfl rfl ?_
    refine N_iald (pc := 47) dX10_findNearest_47 (by first | rfl | assumption) (by first | rfl | assumption) (by omega) ?_
    rw [hq.2]
    refine S_callV (av := [_]) (pc := 48) (z := mX10_isAll) (ci := 9) dX10_findNearest_48 zX10_isAll lX10_findNearest_195 rfl (by first | rfl | assumption) rfl rfl (sX10_isAll hb.2 a1 a2 ⟨_, rfl, ?_⟩)
    rw [allG_e (SpE_n hFr)]
    refine B_if_eq (pc := 51) (tgt := 79) dX10_findNearest_51 (by decide) (fun c51 => ?_) (fun c51 => ?_)
    · skip
      rw [if_neg (by rw [c51]; intro q; exact absurd q.1 (by decide))] at e0
      rw [e0, List.nil_append] at h
      refine N_iinc (pc := 79) dX10_findNearest_79 rfl (by decide) rfl ?_
      refine G_goto (pc := 82) (tgt := 33) dX10_findNearest_82 (by decide) ?_
      first | exact ih (f + 1) S N (by omega) hFr hN h | exact ih (f + 1) S2 _ (by omega) (hFr.tr g1) g2 h
    · skip
      refine G_aload_n (pc := 54) dX10_findNearest_54 rfl rfl ?_
      refine S_getR (pc := 55) (b := 399) dX10_findNearest_55 fX10_37 rfl rfl (by first | rfl | assumption) rfl rfl ?_
      refine G_iload_n (pc := 58) dX10_findNearest_58 rfl rfl ?_
      refine N_iald (pc := 59) dX10_findNearest_59 (by first | rfl | assumption) (by first | rfl | assumption) (by omega) ?_
      rw [hq.1]
      refine S_callS (av := [_]) (pc := 60) (z := mX10_costOf) dX10_findNearest_60 zX10_costOf lX10_findNearest_219 rfl (sX10_costOf (by omega) ⟨_, rfl, ?_⟩)
      refine G_iload_n (pc := 63) dX10_findNearest_63 rfl rfl ?_
      refine N_icmp_ne (pc := 64) (tgt := 79) dX10_findNearest_64 (by decide) (by omega) (fun c64 => ?_) (fun c64 => ?_)
      · skip
        rw [if_neg (fun q => c64 q.2)] at e0
        rw [e0, List.nil_append] at h
        refine N_iinc (pc := 79) dX10_findNearest_79 rfl (by decide) rfl ?_
        refine G_goto (pc := 82) (tgt := 33) dX10_findNearest_82 (by decide) ?_
        first | exact ih (f + 1) S N (by omega) hFr hN h | exact ih (f + 1) S2 _ (by omega) (hFr.tr g1) g2 h
      · skip
        rw [if_pos ⟨c51, c64⟩] at e0
        rw [e0, ← tk_tk] at h
        refine G_aload_n (pc := 67) dX10_findNearest_67 rfl rfl ?_
        refine G_aload_n (pc := 68) dX10_findNearest_68 rfl rfl ?_
        refine S_getR (pc := 69) (b := 399) dX10_findNearest_69 fX10_37 rfl rfl (by first | rfl | assumption) rfl rfl ?_
        refine G_iload_n (pc := 72) dX10_findNearest_72 rfl rfl ?_
        refine N_iald (pc := 73) dX10_findNearest_73 (by first | rfl | assumption) (by first | rfl | assumption) (by omega) ?_
        rw [hq.1]
        refine G_iconst (pc := 74) (v := (-1)) dX10_findNearest_74 (by decide) ?_
        refine G_iconst (pc := 75) (v := (-1)) dX10_findNearest_75 (by decide) ?_
        refine S_callV (av := [_, _, _]) (pc := 76) (z := mX10_noteNear) (ci := 9) dX10_findNearest_76 zX10_noteNear lX10_findNearest_222 rfl (by first | rfl | assumption) rfl rfl (sX10_noteNear (ps := [(F.getD f (0, 0)).1]) hN (Or.inl ⟨_, rfl, rfl, rfl, rfl⟩) (fun S2 g1 g2 => ⟨_, rfl, ?_⟩))
        refine N_iinc (pc := 79) dX10_findNearest_79 rfl (by decide) rfl ?_
        refine G_goto (pc := 82) (tgt := 33) dX10_findNearest_82 (by decide) ?_
        first | exact ih (f + 1) S N (by omega) hFr hN h | exact ih (f + 1) S2 _ (by omega) (hFr.tr g1) g2 h
set_option maxRecDepth 100000 in
set_option maxHeartbeats 4000000 in
theorem nearest_lp2 {S0 : ST} {ts : List Nat} {F B : List (Nat × Nat)} {c : Nat} {o3 o4 : Option AV} (hp : PcOk S0 ts F B) (hc : c ≤ 15) :
    ∀ (d f : Nat) (S : ST) (N : List (List Nat)), f + d = F.length → Fr nX nA S0 S → NeIs S N → (∀ (f' : Nat) (S' : ST), Fr nX nA S0 S' → NeIs S' (tk N (twoF S0 ts F B c d f)) → G sc mX10_findNearest 138 [some (aR 389), some (aI (nI c)), some (aI (nI f')), o3, o4] [] (mk S') Q) →
      G sc mX10_findNearest 87 [some (aR 389), some (aI (nI c)), some (aI (nI f)), o3, o4] [] (mk S) Q := by
  intro d
  induction d with
  | zero =>
    intro f S N hf hFr hN h
    obtain ⟨a1, a2, a3, a4, a5, a6, a7, a8, a9, a10⟩ := PcOk_n hFr hp
    refine G_iload_n (pc := 87) dX10_findNearest_87 rfl rfl ?_
    refine G_aload_n (pc := 88) dX10_findNearest_88 rfl rfl ?_
    refine S_getI (pc := 89) dX10_findNearest_89 fX10_175 rfl (by first | rfl | assumption) rfl ?_
    rw [a4.1]
    refine N_icmp_ge (pc := 92) (tgt := 138) dX10_findNearest_92 (by decide) (by omega) (fun c92 => ?_) (fun c92 => absurd c92 (by omega))
    exact h f S hFr (by rw [show twoF S0 ts F B c 0 f = [] from rfl, tk_nil hN.1]; exact hN)
  | succ d ih =>
    intro f S N hf hFr hN h
    obtain ⟨a1, a2, a3, a4, a5, a6, a7, a8, a9, a10⟩ := PcOk_n hFr hp
    have hq := a4.2 f (by omega)
    have hb := a9 f (by omega)
    have hcc := costN_lt hb.1
    have hNl := hN.1
    have e0 : twoF S0 ts F B c (d + 1) f = two1 S0 ts F B c f ++ twoF S0 ts F B c d (f + 1) := rfl
    by_cases h64 : N.length = 64
    · skip
      refine G_iload_n (pc := 87) dX10_findNearest_87 rfl rfl ?_
      refine G_aload_n (pc := 88) dX10_findNearest_88 rfl rfl ?_
      refine S_getI (pc := 89) dX10_findNearest_89 fX10_175 rfl (by first | rfl | assumption) rfl ?_
      rw [a4.1]
      refine N_icmp_ge (pc := 92) (tgt := 138) dX10_findNearest_92 (by decide) (by omega) (fun c92 => absurd c92 (by omega)) (fun c92 => ?_)
      refine G_aload_n (pc := 95) dX10_findNearest_95 rfl rfl ?_
      refine S_getI (pc := 96) dX10_findNearest_96 fX10_216 rfl (by first | rfl | assumption) rfl ?_
      rw [hN.2.1]
      refine G_bipush (pc := 99) (v := nI 64) dX10_findNearest_99 (by decide) ?_
      refine N_icmp_ge (pc := 101) (tgt := 138) dX10_findNearest_101 (by decide) (by omega) (fun c101 => ?_) (fun c101 => absurd c101 (by omega))
      exact h f S hFr (by rw [tk_full h64]; exact hN)
    · rw [e0, ← tk_tk] at h
      refine G_iload_n (pc := 87) dX10_findNearest_87 rfl rfl ?_
      refine G_aload_n (pc := 88) dX10_findNearest_88 rfl rfl ?_
      refine S_getI (pc := 89) dX10_findNearest_89 fX10_175 rfl (by first | rfl | assumption) rfl ?_
      rw [a4.1]
      refine N_icmp_ge (pc := 92) (tgt := 138) dX10_findNearest_92 (by decide) (by omega) (fun c92 => absurd c92 (by omega)) (fun c92 => ?_)
      refine G_aload_n (pc := 95) dX10_findNearest_95 rfl rfl ?_
      refine S_getI (pc := 96) dX10_findNearest_96 fX10_216 rfl (by first | rfl | assumption) rfl ?_
      rw [hN.2.1]
      refine G_bipush (pc := 99) (v := nI 64) dX10_findNearest_99 (by decide) ?_
      refine N_icmp_ge (pc := 101) (tgt := 138) dX10_findNearest_101 (by decide) (by omega) (fun c101 => absurd c101 (by omega)) (fun c101 => ?_)
      refine G_aload_n (pc := 104) dX10_findNearest_104 rfl rfl ?_
      refine G_iload_n (pc := 105) dX10_findNearest_105 rfl rfl ?_
      refine G_iconst (pc := 106) (v := (-1)) dX10_findNearest_106 (by decide) ?_
      refine G_aload_n (pc := 107) dX10_findNearest_107 rfl rfl ?_
      refine G_aload_n (pc := 108) dX10_findNearest_108 rfl rfl ?_
      refine S_getR (pc := 109) (b := 400) dX10_findNearest_109 fX10_40 rfl rfl (by first | rfl | assumption) rfl rfl ?_
      refine G_iload_n (pc := 112) dX10_findNearest_112 rfl rfl ?_
      refine N_iald (pc := 113) dX10_findNearest_113 (by first | rfl | assumption) (by first | rfl | assumption) (by omega) ?_
      rw [hq.2]
      refine G_iconst (pc := 114) (v := nI 0) dX10_findNearest_114 (by decide) ?_
      refine S_callV (av := [_, _]) (pc := 115) (z := mX10_leftOf) (ci := 9) dX10_findNearest_115 zX10_leftOf lX10_findNearest_198 rfl (by first | rfl | assumption) rfl rfl (sX10_leftOf hb.2 (by omega) a1 a2 ⟨_, rfl, ?_⟩)
      refine G_iload_n (pc := 118) dX10_findNearest_118 rfl rfl ?_
      refine G_aload_n (pc := 119) dX10_findNearest_119 rfl rfl ?_
      refine S_getR (pc := 120) (b := 399) dX10_findNearest_120 fX10_37 rfl rfl (by first | rfl | assumption) rfl rfl ?_
      refine G_iload_n (pc := 123) dX10_findNearest_123 rfl rfl ?_
      refine N_iald (pc := 124) dX10_findNearest_124 (by first | rfl | assumption) (by first | rfl | assumption) (by omega) ?_
      rw [hq.1]
      refine S_callS (av := [_]) (pc := 125) (z := mX10_costOf) dX10_findNearest_125 zX10_costOf lX10_findNearest_219 rfl (sX10_costOf (by omega) ⟨_, rfl, ?_⟩)
      refine G_isub (pc := 128) dX10_findNearest_128 ?_
      refine S_callV (av := [_, _, _, _]) (pc := 129) (z := mX10_noteWith) (ci := 9) dX10_findNearest_129 zX10_noteWith lX10_findNearest_226 rfl (by first | rfl | assumption) rfl rfl (sX10_noteWith (mid := none) a4 (by omega) a7 a5 a6 a8 (fun x q => leftF_lt a1 q) a10 hb.1 (fun m q => by cases q) hN (fun S2 g1 g2 => ⟨_, rfl, ?_⟩))
      rw [leftG_e (SpE_n hFr), pk_sub_toInt (by omega) (by omega)] at g2
      refine N_iinc (pc := 132) dX10_findNearest_132 rfl (by decide) rfl ?_
      refine G_goto (pc := 135) (tgt := 87) dX10_findNearest_135 (by decide) ?_
      exact ih (f + 1) S2 _ (by omega) (hFr.tr g1) g2 h
end M27
