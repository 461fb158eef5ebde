/-! texts: rules, and String.indexOf -/
def eWt : List (Nat × Cond) := [(1411, .fieldLink RJ0 9 "java/lang/String" "value" "[B"), (1410, .fieldLink RJ0 15 "java/lang/String" "coder" "B"), (833, .fieldLink RJ0 38 "java/lang/String" "COMPACT_STRINGS" "Z")]
theorem oWt : okW eWt = true := by decide +kernel
theorem tJ0_9 : Cond.fieldLink RJ0 9 "java/lang/String" "value" "[B" ∈ gTs := gm oWt 0 rfl
theorem tJ0_15 : Cond.fieldLink RJ0 15 "java/lang/String" "coder" "B" ∈ gTs := gm oWt 1 rfl
theorem tJ0_38 : Cond.fieldLink RJ0 38 "java/lang/String" "COMPACT_STRINGS" "Z" ∈ gTs := gm oWt 2 rfl
def txL (j : Nat) : Nat := ([4, 3] : List Nat).getD j 0
def txB (j k : Nat) : Int32 := (([[100, 119, 99, 115], [49, 50, 122]] : List (List Int32)).getD j []).getD k 0
def txN (j : Nat) : List Nat := ([[100, 119, 99, 115], [49, 50, 122]] : List (List Nat)).getD j []
section GT
variable {sc : SC} {y z : MI} {pc : Nat} {L : List (Option AV)} {st : List AV} {M : HM} {S : ST} {Q : Option AV → HM → Prop}
theorem G_ldcS {i j : Nat} {tx : String} (hd : decode y.2.1 pc = .ok (.ldc i, 2)) (hR : ∀ (f : Cf) (s : State), gWd f sc s → vk_R y.1.cls i tx (f.2.2.2 (1 + 2 * j)) s) (k : G sc y (pc + 2) L (aE (1 + 2 * j + 1) :: st) M Q) : G sc y pc L st M Q := by
  intro f l p e s m args below meth c H locs cells slots mc ms ls C Wd hM hS hl hB h1 h2
  exact va_ldcS C.1 C.2.1 C.2.2.2.1 (hR f s Wd) hd (k f l p e s m args below meth c H locs cells slots mc ms ls C Wd hM hS hl hB h1 h2)
theorem G_gval {i j : Nat} (hd : decode y.2.1 pc = .ok (.getfield i, 3)) (hj : j < 2) (hlk : Cond.fieldLink y.1.cls i "java/lang/String" "value" "[B" ∈ gTs) (k : G sc y (pc + 3) L (aE (2 + 2 * j + 1) :: st) M Q) : G sc y pc L (aE (1 + 2 * j + 1) :: st) M Q := by
  intro f l p e s m args below meth c H locs cells slots mc ms ls C Wd hM hS hl hB h1 h2
  exact vk_getf C.1 C.2.1 (Wd.2.2.2.1.1 j hj).2.2.1 hS C.2.2.2.1 (C.2.2.2.2.1 _ hlk) (fun x h => h) hd (k f l p e s m args below meth c H locs cells slots mc ms ls C Wd hM hS hl hB h1 h2)
theorem G_gcod {i j : Nat} (hd : decode y.2.1 pc = .ok (.getfield i, 3)) (hj : j < 2) (hlk : Cond.fieldLink y.1.cls i "java/lang/String" "coder" "B" ∈ gTs) (k : G sc y (pc + 3) L (aI 0 :: st) M Q) : G sc y pc L (aE (1 + 2 * j + 1) :: st) M Q := by
  intro f l p e s m args below meth c H locs cells slots mc ms ls C Wd hM hS hl hB h1 h2
  exact vk_getf C.1 C.2.1 (Wd.2.2.2.1.1 j hj).2.1 hS C.2.2.2.1 (C.2.2.2.2.1 _ hlk) (fun x h => h) hd (k f l p e s m args below meth c H locs cells slots mc ms ls C Wd hM hS hl hB h1 h2)
theorem G_cstr {i : Nat} (hd : decode y.2.1 pc = .ok (.getstatic i, 3)) (hlk : Cond.fieldLink y.1.cls i "java/lang/String" "COMPACT_STRINGS" "Z" ∈ gTs) (k : G sc y (pc + 3) L (aI 1 :: st) M Q) : G sc y pc L st M Q := by
  intro f l p e s m args below meth c H locs cells slots mc ms ls C Wd hM hS hl hB h1 h2
  exact va_gets C.1 C.2.1 Wd.2.2.2.2.2.2.1 hS C.2.2.2.1 (C.2.2.2.2.1 _ hlk) (fun x h => h) hd (k f l p e s m args below meth c H locs cells slots mc ms ls C Wd hM hS hl hB h1 h2)
theorem G_tlen {j : Nat} {v : Int32} (hd : decode y.2.1 pc = .ok (.arraylength, 1)) (hj : j < 2) (hv : Int32.ofNat (txL j) = v) (k : G sc y (pc + 1) L (aI v :: st) M Q) : G sc y pc L (aE (2 + 2 * j + 1) :: st) M Q := by
  intro f l p e s m args below meth c H locs cells slots mc ms ls C Wd hM hS hl hB h1 h2
  exact va_tlen C.1 C.2.1 (Wd.2.2.2.1.1 j hj).2.2.2 hS hv hd (k f l p e s m args below meth c H locs cells slots mc ms ls C Wd hM hS hl hB h1 h2)
theorem G_tbal {j i : Nat} {v : Int32} (hd : decode y.2.1 pc = .ok (.baload, 1)) (hj : j < 2) (hi : i < txL j) (hv : txB j i = v) (k : G sc y (pc + 1) L (aI v :: st) M Q) : G sc y pc L (aI (nI i) :: aE (2 + 2 * j + 1) :: st) M Q := by
  intro f l p e s m args below meth c H locs cells slots mc ms ls C Wd hM hS hl hB h1 h2
  have h4 : txL j ≤ 4 := by rcases (show j = 0 ∨ j = 1 by omega) with rfl | rfl <;> decide
  subst hv
  have h31 : i < 2 ^ 31 := by omega
  exact va_tb C.1 C.2.1 (Wd.2.2.2.1.1 j hj).2.2.2 hS (vp_in_nI hi (show txL j < 2 ^ 31 by omega)) (v := .int (txB j i)) (by rw [nI_clamp h31]; rfl) hd (k f l p e s m args below meth c H locs cells slots mc ms ls C Wd hM hS hl hB h1 h2)
theorem G_callE {i n' s' j : Nat} {av : List AV} (hd : decode y.2.1 pc = .ok (.invokevirtual i, 3)) (hz : mV z av.length) (hlk : lkB y z i) (hcat : gCat st ≤ 8) (hcls : z.1.cls = "java/lang/String") (hj : j < 2) (hn : M.2.1 ≤ n' ∧ n' ≤ M.2.2.2.1) (hs : M.2.2.1 ≤ s' ∧ s' ≤ M.2.2.2.2)
    (hM : CT sc z (aE (1 + 2 * j + 1) :: av) (M.1, M.2.1, M.2.2.1, n', s') (gK sc y pc L st M n' s' Q)) : G sc y pc L (av.reverse ++ aE (1 + 2 * j + 1) :: st) M Q := by
  intro f l p e s m args below meth c H locs cells slots mc ms ls C Wd hMm hS hl hB h1 h2
  obtain ⟨z1, z2, z3, z4⟩ := mB_spec hz.2
  rw [g_map_rev]
  refine g_back (Q' := gK sc y pc L st M n' s' Q) (va_runV (As := av.map (cvv f)) (rest := st.map (cvv f)) (n := av.length) (index := i) (bytes := z.2.1) (maxL := z.2.2.1) (ret := z.2.2.2.1) (Ts := gTs) (own := y.1.cls) (cc := y.2.1) (nL := y.2.2.1) (C := z.1.cls) (b := f.2.2.2 (1 + 2 * j)) ⟨C.1, C.2.1, C.2.2.1, C.2.2.2.1, C.2.2.2.2.1⟩ (hM f l) ⟨callB_of av.length C.2.2.2.2.1 (gW_good z2) rfl rfl rfl (C.2.2.2.2.1 _ z1) (C.2.2.2.2.1 _ hlk.1) ⟨z3.1, z3.2, z4⟩ hlk.2, C.2.2.2.2.1 _ hz.1.1, C.2.2.2.2.1 _ hz.1.2⟩ ⟨gPc_blind f sc _ _, by rw [hcls]; exact vk_recv (i := j) Wd.2.2.2.1 hj hS, fun U hU hW => ⟨rfl, by rw [hU]; exact hMm, gWd_moved Wd hS hB hU hW⟩⟩ rfl (by simp) hl.1 rfl (lv_room (by rw [gCat_eq]; exact hcat)) hd ⟨?_, ?_⟩) hS (g_going hn hs C Wd hl hB h1 h2)
  · show cells + (n' - M.2.1) ≤ mc
    omega
  · show slots + (s' - M.2.2.1) ≤ ms
    omega
theorem S_callE {i j : Nat} {av : List AV} (hd : decode y.2.1 pc = .ok (.invokevirtual i, 3)) (hz : mV z av.length) (hlk : lkB y z i) (hcat : Nat.ble (gCat st) 8 = true) (hcls : z.1.cls = "java/lang/String") (hj : j < 2) (hM : CT sc z (aE (1 + 2 * j + 1) :: av) (mk S) (gJ sc y pc L st Q)) : G sc y pc L (av.reverse ++ aE (1 + 2 * j + 1) :: st) (mk S) Q :=
  G_callE (n' := 413) (s' := gSLn) hd hz hlk (Nat.le_of_ble_eq_true hcat) hcls hj ⟨Nat.le_refl _, Nat.le_refl _⟩ ⟨Nat.le_refl _, Nat.le_refl _⟩ (CT_mono hM (fun r M' h => by obtain ⟨S', rfl, h2⟩ := h; exact ⟨rfl, rfl, h2⟩))
theorem S_bret {x : Int32} {ty : FieldType} (hd : decode y.2.1 pc = .ok (.ireturn, 1)) (hr : y.2.2.2.1 = some ty) (hn : narrow ty (.int x) = .int x) (hq : Q (some (aI x)) (mk S)) : G sc y pc L [aI x] (mk S) Q := G_zret hd hr hn (Nat.le_refl _) (Nat.le_refl _) hq
end GT
/-- the first of the signs -/
def fsI (c : Nat) : List Nat → Nat → Option Nat
  | [], _ => none
  | x :: r, k => if x = c then some k else fsI c r (k + 1)
theorem fs_fn0 : ∀ c, c < 127 → fsI c [100, 119, 99, 115] 0 = fnI c [100, 119, 99, 115] 0 none := by decide
theorem fs_fn1 : ∀ c, c < 127 → fsI c [49, 50, 122] 0 = fnI c [49, 50, 122] 0 none := by decide
theorem txB_n {j k : Nat} (hj : j < 2) (hk : k < txL j) : txB j k = nI ((txN j).getD k 0) := by
  rcases (show j = 0 ∨ j = 1 by omega) with rfl | rfl
  · have hk : k < 4 := hk
    rcases (show k = 0 ∨ k = 1 ∨ k = 2 ∨ k = 3 by omega) with rfl | rfl | rfl | rfl <;> rfl
  · have hk : k < 3 := hk
    rcases (show k = 0 ∨ k = 1 ∨ k = 2 by omega) with rfl | rfl | rfl <;> rfl
theorem txN_b {j k : Nat} (hj : j < 2) (hk : k < txL j) : (txN j).getD k 0 ≤ 126 := by
  rcases (show j = 0 ∨ j = 1 by omega) with rfl | rfl
  · have hk : k < 4 := hk
    rcases (show k = 0 ∨ k = 1 ∨ k = 2 ∨ k = 3 by omega) with rfl | rfl | rfl | rfl <;> decide
  · have hk : k < 3 := hk
    rcases (show k = 0 ∨ k = 1 ∨ k = 2 by omega) with rfl | rfl | rfl <;> decide
theorem txN_l {j : Nat} (hj : j < 2) : (txN j).length = txL j := by
  rcases (show j = 0 ∨ j = 1 by omega) with rfl | rfl <;> rfl
theorem txL_4 {j : Nat} (hj : j < 2) : txL j ≤ 4 ∧ 3 ≤ txL j := by
  rcases (show j = 0 ∨ j = 1 by omega) with rfl | rfl <;> decide
section C31
variable {sc : SC} {S : ST} {Q : Option AV → HM → Prop}
set_option maxRecDepth 100000 in
set_option maxHeartbeats 4000000 in
theorem indexOfChar_lp {j c : Nat} {x : Int32} (hj : j < 2) (hc : c < 127) :
    ∀ (r : List Nat) (k : Nat), k ≤ txL j → (txN j).drop k = r → Q (some (aI (midI (fsI c r k)))) (mk S) →
      G sc mJ1_indexOfChar_4cfef 7 [some (aE (2 + 2 * j + 1)), some (aI x), some (aI (nI 0)), some (aI (nI (txL j))), some (aI (nI c)), some (aI (nI k))] [] (mk S) Q := by
  have h4 := txL_4 hj
  intro r
  induction r with
  | nil =>
    intro k hk hd h
    have hd := List.drop_eq_nil_iff.mp hd
    rw [txN_l hj] at hd
    refine G_iload (pc := 7) dJ1_indexOfChar_4cfef_7 rfl ?_
    refine G_iload_n (pc := 9) dJ1_indexOfChar_4cfef_9 rfl rfl ?_
    refine N_icmp_ge (pc := 10) (tgt := 31) dJ1_indexOfChar_4cfef_10 (by decide) (by omega) (fun c10 => ?_) (fun c10 => absurd c10 (by omega))
    refine G_iconst (pc := 31) (v := (-1)) dJ1_indexOfChar_4cfef_31 (by decide) ?_
    refine S_iret (pc := 32) dJ1_indexOfChar_4cfef_32 rfl ?_
    exact h
  | cons y r ih =>
    intro k hk hd h
    obtain ⟨d1, d2, d3⟩ := drop_cx hd
    rw [txN_l hj] at d1
    have hv := txB_n hj d1
    have hb := txN_b hj d1
    rw [d2] at hv hb
    have e0 : fsI c (y :: r) k = if y = c then some k else fsI c r (k + 1) := rfl
    rw [e0] at h
    refine G_iload (pc := 7) dJ1_indexOfChar_4cfef_7 rfl ?_
    refine G_iload_n (pc := 9) dJ1_indexOfChar_4cfef_9 rfl rfl ?_
    refine N_icmp_ge (pc := 10) (tgt := 31) dJ1_indexOfChar_4cfef_10 (by decide) (by omega) (fun c10 => absurd c10 (by omega)) (fun c10 => ?_)
    refine G_eload_n (pc := 13) dJ1_indexOfChar_4cfef_13 rfl rfl ?_
    refine G_iload (pc := 14) dJ1_indexOfChar_4cfef_14 rfl ?_
    refine G_tbal (pc := 16) (j := j) dJ1_indexOfChar_4cfef_16 hj d1 hv ?_
    refine G_iload (pc := 17) dJ1_indexOfChar_4cfef_17 rfl ?_
    refine N_icmp_ne (pc := 19) (tgt := 25) dJ1_indexOfChar_4cfef_19 (by decide) (by omega) (fun c19 => ?_) (fun c19 => ?_)
    · skip
      rw [if_neg c19] at h
      refine N_iinc (pc := 25) dJ1_indexOfChar_4cfef_25 rfl (by decide) rfl ?_
      refine G_goto (pc := 28) (tgt := 7) dJ1_indexOfChar_4cfef_28 (by decide) ?_
      exact ih (k + 1) (by omega) d3 h
    · skip
      rw [if_pos c19] at h
      refine G_iload (pc := 22) dJ1_indexOfChar_4cfef_22 rfl ?_
      refine S_iret (pc := 24) dJ1_indexOfChar_4cfef_24 rfl ?_
      exact h
set_option maxRecDepth 100000 in
set_option maxHeartbeats 4000000 in
theorem sJ1_indexOfChar {j c : Nat} (hj : j < 2) (hc : c < 127) (h : Q (some (aI (midI (fsI c (txN j) 0)))) (mk S)) : CT sc mJ1_indexOfChar_4cfef [aE (2 + 2 * j + 1), aI (nI c), aI (nI 0), aI (nI (txL j))] (mk S) Q := by
  refine S_of (by decide) rfl ?_
  show G sc mJ1_indexOfChar_4cfef 0 [some (aE (2 + 2 * j + 1)), some (aI (nI c)), some (aI (nI 0)), some (aI (nI (txL j))), none, none] [] (mk S) Q
  refine G_iload_n (pc := 0) dJ1_indexOfChar_4cfef_0 rfl rfl ?_
  refine G_i2b (pc := 1) dJ1_indexOfChar_4cfef_1 ?_
  rw [by8 (x := nI c) (by rw [nIt (by omega)]; omega)]
  refine G_istore (pc := 2) dJ1_indexOfChar_4cfef_2 (by decide) rfl ?_
  refine G_iload_n (pc := 4) dJ1_indexOfChar_4cfef_4 rfl rfl ?_
  refine G_istore (pc := 5) dJ1_indexOfChar_4cfef_5 (by decide) rfl ?_
  exact indexOfChar_lp hj hc (txN j) 0 (by omega) List.drop_zero h
set_option maxRecDepth 100000 in
set_option maxHeartbeats 4000000 in
theorem sJ1_canEncode {c : Nat} (hc : c < 127) (h : Q (some (aI (bI true))) (mk S)) : CT sc mJ1_canEncode_9a6ad [aI (nI c)] (mk S) Q := by
  refine S_of (by decide) rfl ?_
  show G sc mJ1_canEncode_9a6ad 0 [some (aI (nI c))] [] (mk S) Q
  refine G_iload_n (pc := 0) dJ1_canEncode_9a6ad_0 rfl rfl ?_
  refine N_if_lt (pc := 1) (tgt := 15) dJ1_canEncode_9a6ad_1 (by decide) (by omega) ?_
  refine G_iload_n (pc := 4) dJ1_canEncode_9a6ad_4 rfl rfl ?_
  refine G_sipush (pc := 5) (v := nI 255) dJ1_canEncode_9a6ad_5 (by decide) ?_
  refine N_icmp_gt (pc := 8) (tgt := 15) dJ1_canEncode_9a6ad_8 (by decide) (by omega) (fun c8 => absurd c8 (by omega)) (fun c8 => ?_)
  refine G_iconst (pc := 11) (v := nI 1) dJ1_canEncode_9a6ad_11 (by decide) ?_
  refine G_goto (pc := 12) (tgt := 16) dJ1_canEncode_9a6ad_12 (by decide) ?_
  refine S_zret (pc := 16) dJ1_canEncode_9a6ad_16 rfl rfl ?_
  exact h
set_option maxRecDepth 100000 in
set_option maxHeartbeats 4000000 in
theorem sJ1_indexOf {j c : Nat} (hj : j < 2) (hc : c < 127) (h : Q (some (aI (midI (fsI c (txN j) 0)))) (mk S)) : CT sc mJ1_indexOf_4cfef [aE (2 + 2 * j + 1), aI (nI c), aI (nI 0), aI (nI (txL j))] (mk S) Q := by
  refine S_of (by decide) rfl ?_
  show G sc mJ1_indexOf_4cfef 0 [some (aE (2 + 2 * j + 1)), some (aI (nI c)), some (aI (nI 0)), some (aI (nI (txL j)))] [] (mk S) Q
  have h4 := txL_4 hj
  refine G_iload_n (pc := 0) dJ1_indexOf_4cfef_0 rfl rfl ?_
  refine S_callS (av := [_]) (pc := 1) (z := mJ1_canEncode_9a6ad) dJ1_indexOf_4cfef_1 zJ1_canEncode_9a6ad lJ1_indexOf_4cfef_88 rfl (sJ1_canEncode hc ⟨_, rfl, ?_⟩)
  refine B_if_ne (pc := 4) (tgt := 9) dJ1_indexOf_4cfef_4 (by decide) (fun c4 => ?_) (fun c4 => absurd c4 (by decide))
  refine G_iload_n (pc := 9) dJ1_indexOf_4cfef_9 rfl rfl ?_
  refine G_iconst (pc := 10) (v := nI 0) dJ1_indexOf_4cfef_10 (by decide) ?_
  refine S_mmax (pc := 11) dJ1_indexOf_4cfef_11 zJ9_max_7cf53 lJ1_indexOf_4cfef_92 rfl (by omega) ?_
  rw [show max 0 0 = 0 from rfl]
  refine G_istore_n (pc := 14) dJ1_indexOf_4cfef_14 rfl (by decide) rfl ?_
  refine G_iload_n (pc := 15) dJ1_indexOf_4cfef_15 rfl rfl ?_
  refine G_eload_n (pc := 16) dJ1_indexOf_4cfef_16 rfl rfl ?_
  refine G_tlen (pc := 17) (j := j) dJ1_indexOf_4cfef_17 hj rfl ?_
  rw [show Int32.ofNat (txL j) = nI (txL j) from rfl]
  refine S_mmin (pc := 18) dJ1_indexOf_4cfef_18 zJ9_min_7cf53 lJ1_indexOf_4cfef_38 rfl (by omega) ?_
  rw [show min (txL j) (txL j) = txL j from Nat.min_self _]
  refine G_istore_n (pc := 21) dJ1_indexOf_4cfef_21 rfl (by decide) rfl ?_
  refine G_iload_n (pc := 22) dJ1_indexOf_4cfef_22 rfl rfl ?_
  refine G_iload_n (pc := 23) dJ1_indexOf_4cfef_23 rfl rfl ?_
  refine N_icmp_lt (pc := 24) (tgt := 29) dJ1_indexOf_4cfef_24 (by decide) (by omega) (fun c24 => ?_) (fun c24 => absurd c24 (by omega))
  refine G_eload_n (pc := 29) dJ1_indexOf_4cfef_29 rfl rfl ?_
  refine G_iload_n (pc := 30) dJ1_indexOf_4cfef_30 rfl rfl ?_
  refine G_iload_n (pc := 31) dJ1_indexOf_4cfef_31 rfl rfl ?_
  refine G_iload_n (pc := 32) dJ1_indexOf_4cfef_32 rfl rfl ?_
  refine S_callS (av := [_, _, _, _]) (pc := 33) (z := mJ1_indexOfChar_4cfef) dJ1_indexOf_4cfef_33 zJ1_indexOfChar_4cfef lJ1_indexOf_4cfef_95 rfl (sJ1_indexOfChar hj hc ⟨_, rfl, ?_⟩)
  refine S_iret (pc := 36) dJ1_indexOf_4cfef_36 rfl ?_
  exact h
set_option maxRecDepth 100000 in
set_option maxHeartbeats 4000000 in
theorem sJ0_isLatin1 {j : Nat} (hj : j < 2) (h : Q (some (aI (bI true))) (mk S)) : CT sc mJ0_isLatin1_aae02 [aE (1 + 2 * j + 1)] (mk S) Q := by
  refine S_of (by decide) rfl ?_
  show G sc mJ0_isLatin1_aae02 0 [some (aE (1 + 2 * j + 1))] [] (mk S) Q
  refine G_cstr (pc := 0) dJ0_isLatin1_aae02_0 tJ0_38 ?_
  refine T_if_eq (pc := 3) (tgt := 17) dJ0_isLatin1_aae02_3 (by decide) (fun c3 => absurd c3 (by decide)) (fun c3 => ?_)
  refine G_eload_n (pc := 6) dJ0_isLatin1_aae02_6 rfl rfl ?_
  refine G_gcod (pc := 7) (j := j) dJ0_isLatin1_aae02_7 hj tJ0_15 ?_
  refine T_if_ne (pc := 10) (tgt := 17) dJ0_isLatin1_aae02_10 (by decide) (fun c10 => absurd c10 (by decide)) (fun c10 => ?_)
  refine G_iconst (pc := 13) (v := nI 1) dJ0_isLatin1_aae02_13 (by decide) ?_
  refine G_goto (pc := 14) (tgt := 18) dJ0_isLatin1_aae02_14 (by decide) ?_
  refine S_zret (pc := 18) dJ0_isLatin1_aae02_18 rfl rfl ?_
  exact h
set_option maxRecDepth 100000 in
set_option maxHeartbeats 4000000 in
theorem sJ0_coder {j : Nat} (hj : j < 2) (h : Q (some (aI 0)) (mk S)) : CT sc mJ0_coder_7d493 [aE (1 + 2 * j + 1)] (mk S) Q := by
  refine S_of (by decide) rfl ?_
  show G sc mJ0_coder_7d493 0 [some (aE (1 + 2 * j + 1))] [] (mk S) Q
  refine G_cstr (pc := 0) dJ0_coder_7d493_0 tJ0_38 ?_
  refine T_if_eq (pc := 3) (tgt := 13) dJ0_coder_7d493_3 (by decide) (fun c3 => absurd c3 (by decide)) (fun c3 => ?_)
  refine G_eload_n (pc := 6) dJ0_coder_7d493_6 rfl rfl ?_
  refine G_gcod (pc := 7) (j := j) dJ0_coder_7d493_7 hj tJ0_15 ?_
  refine G_goto (pc := 10) (tgt := 14) dJ0_coder_7d493_10 (by decide) ?_
  refine S_bret (pc := 14) dJ0_coder_7d493_14 rfl rfl ?_
  exact h
set_option maxRecDepth 100000 in
set_option maxHeartbeats 4000000 in
theorem sJ0_length {j : Nat} (hj : j < 2) (h : Q (some (aI (nI (txL j)))) (mk S)) : CT sc mJ0_length_8abf5 [aE (1 + 2 * j + 1)] (mk S) Q := by
  refine S_of (by decide) rfl ?_
  show G sc mJ0_length_8abf5 0 [some (aE (1 + 2 * j + 1))] [] (mk S) Q
  have h4 := txL_4 hj
  refine G_eload_n (pc := 0) dJ0_length_8abf5_0 rfl rfl ?_
  refine G_gval (pc := 1) (j := j) dJ0_length_8abf5_1 hj tJ0_9 ?_
  refine G_tlen (pc := 4) (j := j) dJ0_length_8abf5_4 hj rfl ?_
  refine G_eload_n (pc := 5) dJ0_length_8abf5_5 rfl rfl ?_
  refine S_callE (av := []) (pc := 6) (z := mJ0_coder_7d493) (j := j) dJ0_length_8abf5_6 zJ0_coder_7d493 lJ0_length_8abf5_335 rfl rfl hj (sJ0_coder hj ⟨_, rfl, ?_⟩)
  refine G_ishr (pc := 9) dJ0_length_8abf5_9 ?_
  refine S_iret (pc := 10) dJ0_length_8abf5_10 rfl ?_
  refine q_i h ?_
  have := shrN (n := txL j) (t := 0) (by omega) (by omega)
  rw [Nat.pow_zero, Nat.div_one] at this
  exact this
set_option maxRecDepth 100000 in
set_option maxHeartbeats 4000000 in
theorem sJ0_indexOf2 {j c : Nat} (hj : j < 2) (hc : c < 127) (h : Q (some (aI (midI (fsI c (txN j) 0)))) (mk S)) : CT sc mJ0_indexOf_7cf53 [aE (1 + 2 * j + 1), aI (nI c), aI (nI 0)] (mk S) Q := by
  refine S_of (by decide) rfl ?_
  show G sc mJ0_indexOf_7cf53 0 [some (aE (1 + 2 * j + 1)), some (aI (nI c)), some (aI (nI 0))] [] (mk S) Q
  refine G_eload_n (pc := 0) dJ0_indexOf_7cf53_0 rfl rfl ?_
  refine S_callE (av := []) (pc := 1) (z := mJ0_isLatin1_aae02) (j := j) dJ0_indexOf_7cf53_1 zJ0_isLatin1_aae02 lJ0_indexOf_7cf53_492 rfl rfl hj (sJ0_isLatin1 hj ⟨_, rfl, ?_⟩)
  refine B_if_eq (pc := 4) (tgt := 23) dJ0_indexOf_7cf53_4 (by decide) (fun c4 => absurd c4 (by decide)) (fun c4 => ?_)
  refine G_eload_n (pc := 7) dJ0_indexOf_7cf53_7 rfl rfl ?_
  refine G_gval (pc := 8) (j := j) dJ0_indexOf_7cf53_8 hj tJ0_9 ?_
  refine G_iload_n (pc := 11) dJ0_indexOf_7cf53_11 rfl rfl ?_
  refine G_iload_n (pc := 12) dJ0_indexOf_7cf53_12 rfl rfl ?_
  refine G_eload_n (pc := 13) dJ0_indexOf_7cf53_13 rfl rfl ?_
  refine S_callE (av := []) (pc := 14) (z := mJ0_length_8abf5) (j := j) dJ0_indexOf_7cf53_14 zJ0_length_8abf5 lJ0_indexOf_7cf53_505 rfl rfl hj (sJ0_length hj ⟨_, rfl, ?_⟩)
  refine S_callS (av := [_, _, _, _]) (pc := 17) (z := mJ1_indexOf_4cfef) dJ0_indexOf_7cf53_17 zJ1_indexOf_4cfef lJ0_indexOf_7cf53_637 rfl (sJ1_indexOf hj hc ⟨_, rfl, ?_⟩)
  refine G_goto (pc := 20) (tgt := 36) dJ0_indexOf_7cf53_20 (by decide) ?_
  refine S_iret (pc := 36) dJ0_indexOf_7cf53_36 rfl ?_
  exact h
set_option maxRecDepth 100000 in
set_option maxHeartbeats 4000000 in
theorem sJ0_indexOf {j c : Nat} (hj : j < 2) (hc : c < 127) (h : Q (some (aI (midI (fsI c (txN j) 0)))) (mk S)) : CT sc mJ0_indexOf_0f7a4 [aE (1 + 2 * j + 1), aI (nI c)] (mk S) Q := by
  refine S_of (by decide) rfl ?_
  show G sc mJ0_indexOf_0f7a4 0 [some (aE (1 + 2 * j + 1)), some (aI (nI c))] [] (mk S) Q
  refine G_eload_n (pc := 0) dJ0_indexOf_0f7a4_0 rfl rfl ?_
  refine G_iload_n (pc := 1) dJ0_indexOf_0f7a4_1 rfl rfl ?_
  refine G_iconst (pc := 2) (v := nI 0) dJ0_indexOf_0f7a4_2 (by decide) ?_
  refine S_callE (av := [_, _]) (pc := 3) (z := mJ0_indexOf_7cf53) (j := j) dJ0_indexOf_0f7a4_3 zJ0_indexOf_7cf53 lJ0_indexOf_0f7a4_633 rfl rfl hj (sJ0_indexOf2 hj hc ⟨_, rfl, ?_⟩)
  refine S_iret (pc := 6) dJ0_indexOf_0f7a4_6 rfl ?_
  exact h
end C31
