/-! the constructors: rules; Row, Program, Sheet -/
def eWn : List (Nat × Cond) := [(105, .instanceMethod objectInit), (106, .code objectInit ⟨#[0xb1]⟩ 1 none), (130, .arrayClass .byte), (175, .arrayClass .int), (176, .arrayClass .short)]
theorem oWn : okW eWn = true := by decide +kernel
theorem oI1 : Cond.instanceMethod objectInit ∈ gTs := gm oWn 0 rfl
theorem oI2 : Cond.code objectInit ⟨#[0xb1]⟩ 1 none ∈ gTs := gm oWn 1 rfl
theorem aB_ : Cond.arrayClass .byte ∈ gTs := gm oWn 2 rfl
theorem aI_ : Cond.arrayClass .int ∈ gTs := gm oWn 3 rfl
theorem aS_ : Cond.arrayClass .short ∈ gTs := gm oWn 4 rfl
/-- the state behind the constructors -/
def Si : ST := (fun a j => if (a = 0 ∧ j = 6) ∨ (381 ≤ a ∧ a ≤ 387 ∧ a % 2 = 1 ∧ j = 2) then -1 else 0, fun a j => if a = 410 ∧ j < 4 then -1 else 0, fun _ => none)
/-- B, but at a there is an object of the class ci with the fields F -/
def ob (B : Nat → Cel) (a ci : Nat) (F : Nat → AV) : Nat → Cel := fun j => if j = a then .inr (.inr (ci, F)) else B j
theorem ob_at {B : Nat → Cel} {a ci : Nat} {F : Nat → AV} : ob B a ci F a = .inr (.inr (ci, F)) := if_pos rfl
theorem ob_n {B : Nat → Cel} {a ci j : Nat} {F : Nat → AV} (h : ¬ j = a) : ob B a ci F j = B j := if_neg h
theorem ob_id {B : Nat → Cel} {a ci : Nat} {F F' : Nat → AV} (h : B a = .inr (.inr (ci, F'))) (e : ∀ j, F j = F' j) : ob B a ci F = B := by
  funext j
  unfold ob
  split
  · rename_i q
    rw [q, h, show F = F' from funext e]
  · rfl
theorem gUp_ob {B : Nat → Cel} {a ci : Nat} {F F' : Nat → AV} {r : Nat × Nat × Nat × Nat} : gUp (ob B a ci F, r) a (.inr (.inr (ci, F'))) = (ob B a ci F', r) := by
  unfold gUp ob
  refine Prod.ext ?_ rfl
  funext j
  dsimp only
  split <;> rfl
theorem gAdd_id {B : Nat → Cel} {u s n : Nat} {r : Nat × Nat} {c : Cel} (h : B u = c) : gAdd (B, u, s, r) c n = (B, u + 1, s + n, r) := by
  unfold gAdd
  refine Prod.ext ?_ rfl
  funext j
  dsimp only
  split
  · rename_i q; rw [q, h]
  · rfl
section N1
variable {sc : SC} {y z : MI} {pc : Nat} {L : List (Option AV)} {st : List AV} {Q : Option AV → HM → Prop} {B : Nat → Cel} {F : Nat → AV} {a ci u s L1 L2 : Nat}
theorem I_put {i k : Nat} {v : AV} {ty : FieldType} (hd : decode y.2.1 pc = .ok (.putfield i, 3)) (hf : flB y.1.cls i ci k) (hp : fpB ci k ty = true) (hn : ∀ f : Cf, narrow ty (cvv f v) = cvv f v ∧ fits ty (cvv f v) = true) (ha : a < u) (kk : G sc y (pc + 3) L st (ob B a ci (fun j => if j = k then v else F j), u, s, L1, L2) Q) : G sc y pc L (v :: aR a :: st) (ob B a ci F, u, s, L1, L2) Q :=
  G_putfield hd hf hp hn ha ob_at (by rw [gUp_ob]; exact kk)
theorem I_putF {i k : Nat} {v : AV} {ty : FieldType} (hd : decode y.2.1 pc = .ok (.putfield i, 3)) (hf : flB y.1.cls i ci k) (hp : ffB ci k ty = true) (hy : y.1.name = "<init>") (hy2 : (match vwCl[ci]? with | some q => decide (q.1 = y.1.cls) | none => false) = true) (hn : ∀ f : Cf, narrow ty (cvv f v) = cvv f v ∧ fits ty (cvv f v) = true) (ha : a < u) (kk : G sc y (pc + 3) L st (ob B a ci (fun j => if j = k then v else F j), u, s, L1, L2) Q) : G sc y pc L (v :: aR a :: st) (ob B a ci F, u, s, L1, L2) Q :=
  G_putfinal hd hf hp hy hy2 hn ha ob_at (by rw [gUp_ob]; exact kk)
theorem I_row {at0 : ArrayType} {t : Nat} {x : Int32} {N : Nat} {ty : FieldType} (hd : decode y.2.1 pc = .ok (.newarray at0, 2)) (hty : newarray.typeOf at0 = ty) (hw : Cond.arrayClass ty ∈ gTs) (ht : ∀ f : Cf, (gTy f)[t]? = some (f.2.2.1 t, ty)) (hp : gNob ty = true) (hdf : defaultValue ty = .int 0) (hx : ¬ x < 0) (hN : x.toNatClampNeg = N) (hb : N * componentBytes ty ≤ 536870912) (h1n : u + 1 ≤ L1) (h1s : s + N ≤ L2) (hB : B u = .inl (t, N, fun _ => 0))
    (kk : G sc y (pc + 2) L (aR u :: st) (B, u + 1, s + N, L1, L2) Q) : G sc y pc L (aI x :: st) (B, u, s, L1, L2) Q :=
  G_newarray hd hty hw ht hp hdf hx hN hb h1n h1s (by rw [gAdd_id hB]; exact kk)
theorem I_new {i ci' N : Nat} (hd : decode y.2.1 pc = .ok (.new i, 3)) (hw : gNew y i ci' = true) (hpl : gPlain ci' = true) (hN : gN ci' = N) (h1n : u + 1 ≤ L1) (h1s : s + N ≤ L2)
    (kk : G sc y (pc + 3) L (aR u :: st) (ob B u ci' (gDef ci'), u + 1, s + N, L1, L2) Q) : G sc y pc L st (B, u, s, L1, L2) Q := G_new hd hw hpl hN h1n h1s kk
theorem I_vret (hd : decode y.2.1 pc = .ok (.return_, 1)) (hr : y.2.2.2.1 = none) (h1 : u ≤ L1) (h2 : s ≤ L2) (hq : Q none (B, u, s, L1, L2)) : G sc y pc L [] (B, u, s, L1, L2) Q := G_vret hd hr h1 h2 hq
theorem I_call {i n' s' : Nat} {av : List AV} (hd : decode y.2.1 pc = .ok (.invokespecial i, 3)) (hz : mI z av.length) (hlk : lkB y z i) (hcat : Nat.ble (gCat st) 8 = true) (hn : u ≤ n' ∧ n' ≤ L1) (hs : s ≤ s' ∧ s' ≤ L2)
    (h : CT sc z (aR a :: av) (B, u, s, n', s') (fun r M' => ∃ B', M' = (B', n', s', n', s') ∧ G sc y (pc + 3) L (r.toList ++ st) (B', n', s', L1, L2) Q)) : G sc y pc L (av.reverse ++ aR a :: st) (B, u, s, L1, L2) Q :=
  G_callI (M := (B, u, s, L1, L2)) hd hz hlk (Nat.le_of_ble_eq_true hcat) hn hs (CT_mono h (fun r M' h => by obtain ⟨B', rfl, h2⟩ := h; exact ⟨rfl, rfl, h2⟩))
theorem I_callN {i n' s' : Nat} {av : List AV} (hd : decode y.2.1 pc = .ok (.invokespecial i, 3)) (hz : mI z av.length) (hlk : lkN y z i) (hcat : Nat.ble (gCat st) 8 = true) (hn : u ≤ n' ∧ n' ≤ L1) (hs : s ≤ s' ∧ s' ≤ L2)
    (h : CT sc z (aR a :: av) (B, u, s, n', s') (fun r M' => ∃ B', M' = (B', n', s', n', s') ∧ G sc y (pc + 3) L (r.toList ++ st) (B', n', s', L1, L2) Q)) : G sc y pc L (av.reverse ++ aR a :: st) (B, u, s, L1, L2) Q :=
  G_callIN (M := (B, u, s, L1, L2)) hd hz hlk (Nat.le_of_ble_eq_true hcat) hn hs (CT_mono h (fun r M' h => by obtain ⟨B', rfl, h2⟩ := h; exact ⟨rfl, rfl, h2⟩))
theorem I_end {B' : Nat → Cel} {u' s' : Nat} (hd : decode y.2.1 pc = .ok (.return_, 1)) (hr : y.2.2.2.1 = none) (hu : u = u') (hs : s = s') (h1 : u' ≤ L1) (h2 : s' ≤ L2) (hB : B = B') (hq : Q none (B', u', s', L1, L2)) : G sc y pc L [] (B, u, s, L1, L2) Q := by
  subst hu hs hB
  exact G_vret hd hr h1 h2 hq
theorem gAt_F {f : Cf} {b : Nat} {F' : Nat → AV} {H : Heap} (e : ∀ j, j < gN ci → F j = F' j) (h : gAt f b (.inr (.inr (ci, F))) H) : gAt f b (.inr (.inr (ci, F'))) H := by
  have h : t_OB b (f.2.1.1 ci) (gN ci) (f.2.1.2 ci) H (fun j => cvv f (F j)) := h
  show t_OB b (f.2.1.1 ci) (gN ci) (f.2.1.2 ci) H (fun j => cvv f (F' j))
  obtain ⟨cell, h1, h2, h3, h4⟩ := h
  exact ⟨cell, h1, h2, h3, fun j hj => by rw [h4 j hj]; dsimp only; rw [e j hj]⟩
theorem I_endF {F' : Nat → AV} {u' s' : Nat} (hd : decode y.2.1 pc = .ok (.return_, 1)) (hr : y.2.2.2.1 = none) (hu : u = u') (hs : s = s') (h1 : u' ≤ L1) (h2 : s' ≤ L2) (hB : B a = .inr (.inr (ci, F'))) (e : ∀ j, j < gN ci → F j = F' j) (hq : Q none (B, u', s', L1, L2)) : G sc y pc L [] (ob B a ci F, u, s, L1, L2) Q := by
  subst hu hs
  have k : G sc y pc L [] (B, u, s, L1, L2) Q := G_vret hd hr h1 h2 hq
  intro f l p e' s0 m args below meth c H locs cells slots mc ms ls C Wd hM hS hl hB' g1 g2
  refine k f l p e' s0 m args below meth c H locs cells slots mc ms ls C Wd ⟨hM.1, fun j hj => ?_⟩ hS hl hB' g1 g2
  have q := hM.2 j hj
  by_cases z : j = a
  · subst z
    rw [show (ob B j ci F, u, s, L1, L2).1 j = .inr (.inr (ci, F)) from ob_at] at q
    show gAt f (f.1 + j) (B j) H
    rw [hB]
    exact gAt_F e q
  · rw [show (ob B a ci F, u, s, L1, L2).1 j = B j from ob_n z] at q
    exact q
theorem I_of {av : List AV} (hp : plainName z.1.cls = true) (hL : Nat.ble (gSl av).length z.2.2.1 = true) (h1 : u ≤ L1) (h2 : s ≤ L2) (k : G sc z 0 (gEnt z.2.2.1 av) [] (B, u, s, L1, L2) Q) : CT sc z av (B, u, s, L1, L2) Q := CT_of hp (Nat.le_of_ble_eq_true hL) h1 h2 k
end N1
def eWo : List (Nat × Cond) := [(112, .methodLink RX4 3 objectInit), (183, .methodLink RX3 3 objectInit), (324, .methodLink RX5 3 objectInit), (294, .methodLink RX8 3 objectInit), (138, .methodLink RX0 3 objectInit), (145, .methodLink RX2 3 objectInit), (251, .methodLink RX6 3 objectInit), (272, .methodLink RX7 3 objectInit), (104, .methodLink RX9 3 objectInit), (976, .methodLink RX10 1 objectInit)]
theorem oWo : okW eWo = true := by decide +kernel
theorem oX4 : Cond.methodLink RX4 3 objectInit ∈ gTs := gm oWo 0 rfl
theorem oX3 : Cond.methodLink RX3 3 objectInit ∈ gTs := gm oWo 1 rfl
theorem oX5 : Cond.methodLink RX5 3 objectInit ∈ gTs := gm oWo 2 rfl
theorem oX8 : Cond.methodLink RX8 3 objectInit ∈ gTs := gm oWo 3 rfl
theorem oX0 : Cond.methodLink RX0 3 objectInit ∈ gTs := gm oWo 4 rfl
theorem oX2 : Cond.methodLink RX2 3 objectInit ∈ gTs := gm oWo 5 rfl
theorem oX6 : Cond.methodLink RX6 3 objectInit ∈ gTs := gm oWo 6 rfl
theorem oX7 : Cond.methodLink RX7 3 objectInit ∈ gTs := gm oWo 7 rfl
theorem oX9 : Cond.methodLink RX9 3 objectInit ∈ gTs := gm oWo 8 rfl
theorem oX10 : Cond.methodLink RX10 1 objectInit ∈ gTs := gm oWo 9 rfl
/-- the cells of the fresh state -/
theorem Si_row {k t n : Nat} (h : kd k = (10 + t, n)) (ht : t < 10) (hk : ¬ k = 410) : mkC Si k = .inl (t, n, fun _ => 0) := by
  unfold mkC
  rw [h]
  dsimp only
  rw [if_neg (by omega), if_pos (by omega), Nat.add_sub_cancel_left]
  congr 3
  funext j
  show (if k = 410 ∧ j < 4 then (-1 : Int32) else 0) = 0
  rw [if_neg (fun z => hk z.1)]
theorem Si_z {k j : Nat} (h : ¬ ((k = 0 ∧ j = 6) ∨ (381 ≤ k ∧ k ≤ 387 ∧ k % 2 = 1 ∧ j = 2))) : Si.1 k j = 0 := if_neg h
theorem nI_nn {n : Nat} (h : n < 2147483648) : ¬ nI n < 0 := by
  rw [Int32.lt_iff_toInt_lt, nIt h]
  have z : (0 : Int32).toInt = 0 := rfl
  omega
section N2
variable {sc : SC} {Q : Option AV → HM → Prop} {B : Nat → Cel} {a s L1 L2 : Nat}
set_option maxRecDepth 100000 in
set_option maxHeartbeats 4000000 in
theorem i_X4 {n : Nat} (k0 : kd a = (3, 0)) (k1 : kd (a + 1) = (11, n)) (hn : n ≤ 65536) (hB : B a = mkC Si a) (hB1 : B (a + 1) = mkC Si (a + 1)) (h1 : a + 2 ≤ L1) (h2 : s + n ≤ L2) (h : Q none (B, a + 2, s + n, L1, L2)) : CT sc mX4_init [aR a, aI (nI n)] (ob B a 3 (gDef 3), a + 1, s, L1, L2) Q := by
  have a0 : ¬ a = 0 := fun e => by subst e; exact absurd k0 (by decide)
  have a1 : ¬ a + 1 = 410 := fun e => by
    rw [e] at k1
    exact absurd (show (kd 410).1 = 11 from congrArg Prod.fst k1) (by decide)
  have a2 : ¬ (381 ≤ a ∧ a ≤ 387 ∧ a % 2 = 1) := fun e => by
    rcases (show a = 381 ∨ a = 383 ∨ a = 385 ∨ a = 387 by omega) with rfl | rfl | rfl | rfl <;> exact absurd k0 (by decide)
  refine I_of (by decide) rfl (by omega) (by omega) ?_
  show G sc mX4_init 0 [some (aR a), some (aI (nI n))] [] (ob B a 3 (gDef 3), a + 1, s, L1, L2) Q
  refine G_aload_n (pc := 0) dX4_init_0 rfl rfl ?_
  refine G_objInit (pc := 1) dX4_init_1 oX4 oI1 oI2 (by decide) (by decide) ?_
  refine G_aload_n (pc := 4) dX4_init_4 rfl rfl ?_
  refine G_iload_n (pc := 5) dX4_init_5 rfl rfl ?_
  refine I_row (pc := 6) (t := 1) (N := n) dX4_init_6 rfl aB_ (fun f => rfl) rfl rfl (nI_nn (by omega)) (nI_clamp (by omega)) (by show n * 1 ≤ _; omega) (by omega) (by omega) (by rw [ob_n (by omega), hB1, Si_row (t := 1) k1 (by omega) a1]) ?_
  refine I_putF (pc := 8) (ty := .array .byte) dX4_init_8 fX4_9 rfl rfl (by decide) (fun f => ⟨rfl, rfl⟩) (by omega) ?_
  refine G_aload_n (pc := 11) dX4_init_11 rfl rfl ?_
  refine G_iconst (pc := 12) (v := 0) dX4_init_12 (by decide) ?_
  refine I_put (pc := 13) (ty := .int) dX4_init_13 fX4_15 rfl (fun f => ⟨rfl, rfl⟩) (by omega) ?_
  refine I_endF (pc := 16) dX4_init_16 rfl rfl rfl h1 h2 (hB.trans (mkC_obj k0 rfl)) (fun j hj => ?_) h
  have hj : j < 2 := hj
  rcases (show j = 0 ∨ j = 1 by omega) with rfl | rfl
  · rfl
  · exact congrArg aI (Si_z (k := a) (j := 1) (by omega)).symm
end N2
