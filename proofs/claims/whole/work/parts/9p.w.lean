/-! the world at the law's entry -/
section WS
variable {s : State} {b : Nat}
theorem ws_X0 : ∀ w ∈ u_ws RX0 TX0 17, w ∈ lw_tbl := by decide +kernel
theorem ws_X2 : ∀ w ∈ u_ws RX2 TX2 9, w ∈ lw_tbl := by decide +kernel
theorem ws_X3 : ∀ w ∈ u_ws RX3 TX3 2, w ∈ lw_tbl := by decide +kernel
theorem ws_X4 : ∀ w ∈ u_ws RX4 TX4 2, w ∈ lw_tbl := by decide +kernel
theorem ws_X5 : ∀ w ∈ u_ws RX5 TX5 3, w ∈ lw_tbl := by decide +kernel
theorem ws_X6 : ∀ w ∈ u_ws RX6 TX6 3, w ∈ lw_tbl := by decide +kernel
theorem ws_X7 : ∀ w ∈ u_ws RX7 TX7 3, w ∈ lw_tbl := by decide +kernel
theorem ws_X8 : ∀ w ∈ u_ws RX8 TX8 5, w ∈ lw_tbl := by decide +kernel
theorem ws_X9 : ∀ w ∈ u_ws RX9 TX9 14, w ∈ lw_tbl := by decide +kernel
theorem ws_X10 : ∀ w ∈ u_ws RX10 TX10 34, w ∈ lw_tbl := by decide +kernel
theorem w_cls (hts : ∀ w ∈ lw_tbl, w.before #[Value.ref b] s = true) : ∃ (dC : Nat → ClassId) (dI : Nat → Nat → Nat), ∀ (k : Nat) (q : vw_C), vwCl[k]? = some q → u_Kn s q.1 q.2.1 q.2.2 (dC k) (dI k) := by
  obtain ⟨c0, i0, h0⟩ := u_known (C := RX0) (T := TX0) (N := 17) (n := 17) hts ws_X0 (hts (.instantiable RX0 17) (by decide +kernel))
  obtain ⟨c1, i1, h1⟩ := u_known (C := RX2) (T := TX2) (N := 9) (n := 9) hts ws_X2 (hts (.instantiable RX2 9) (by decide +kernel))
  obtain ⟨c2, i2, h2⟩ := u_known (C := RX3) (T := TX3) (N := 2) (n := 2) hts ws_X3 (hts (.instantiable RX3 2) (by decide +kernel))
  obtain ⟨c3, i3, h3⟩ := u_known (C := RX4) (T := TX4) (N := 2) (n := 2) hts ws_X4 (hts (.instantiable RX4 2) (by decide +kernel))
  obtain ⟨c4, i4, h4⟩ := u_known (C := RX5) (T := TX5) (N := 3) (n := 3) hts ws_X5 (hts (.instantiable RX5 3) (by decide +kernel))
  obtain ⟨c5, i5, h5⟩ := u_known (C := RX6) (T := TX6) (N := 3) (n := 3) hts ws_X6 (hts (.instantiable RX6 3) (by decide +kernel))
  obtain ⟨c6, i6, h6⟩ := u_known (C := RX7) (T := TX7) (N := 3) (n := 3) hts ws_X7 (hts (.instantiable RX7 3) (by decide +kernel))
  obtain ⟨c7, i7, h7⟩ := u_known (C := RX8) (T := TX8) (N := 5) (n := 5) hts ws_X8 (hts (.instantiable RX8 5) (by decide +kernel))
  obtain ⟨c8, i8, h8⟩ := u_known (C := RX9) (T := TX9) (N := 14) (n := 14) hts ws_X9 (hts (.instantiable RX9 14) (by decide +kernel))
  obtain ⟨c9, i9, h9⟩ := u_known (C := RX10) (T := TX10) (N := 34) (n := 34) hts ws_X10 (hts (.instantiable RX10 34) (by decide +kernel))
  refine ⟨fun k => [c0, c1, c2, c3, c4, c5, c6, c7, c8, c9].getD k c0, fun k => [i0, i1, i2, i3, i4, i5, i6, i7, i8, i9].getD k i0, ?_⟩
  intro k q hq
  match k, hq with
  | 0, hq => cases hq; exact h0
  | 1, hq => cases hq; exact h1
  | 2, hq => cases hq; exact h2
  | 3, hq => cases hq; exact h3
  | 4, hq => cases hq; exact h4
  | 5, hq => cases hq; exact h5
  | 6, hq => cases hq; exact h6
  | 7, hq => cases hq; exact h7
  | 8, hq => cases hq; exact h8
  | 9, hq => cases hq; exact h9
  | k + 10, hq => simp [vwCl] at hq
theorem w_nest (hts : ∀ w ∈ lw_tbl, w.before #[Value.ref b] s = true) : ∀ q ∈ gNest, va_Nw (.methodLinkNest q.1 q.2.1 q.2.2.1 q.2.2.2) s := by
  intro q hq
  have h : Cond.methodLinkNest q.1 q.2.1 q.2.2.1 q.2.2.2 ∈ lw_tbl := (show ∀ q ∈ gNest, Cond.methodLinkNest q.1 q.2.1 q.2.2.1 q.2.2.2 ∈ lw_tbl by decide +kernel) q hq
  exact va_tabs rfl rfl (hts _ h)
theorem w_over (hts : ∀ w ∈ lw_tbl, w.before #[Value.ref b] s = true) : va_AO RX8 s ∧ va_AO RX3 s ∧ va_AO RX4 s ∧ va_AO RX5 s := ⟨va_AO.of (hts (.arrayOver (.object RX8)) (by decide +kernel)), va_AO.of (hts (.arrayOver (.object RX3)) (by decide +kernel)), va_AO.of (hts (.arrayOver (.object RX4)) (by decide +kernel)), va_AO.of (hts (.arrayOver (.object RX5)) (by decide +kernel))⟩
theorem w_arr {ty : FieldType} (hp : ∀ C, ty ≠ .object C) (h : (Cond.arrayClass ty).before #[Value.ref b] s = true) : ∃ cA : ClassId, ArrOfT s cA ty ∧ va_RA s cA ty := by
  obtain ⟨cA, kA, comp, h1, h2, h3⟩ := Cond.arrayClass_spec h
  refine ⟨cA, fun n z => ⟨fun k h => (by cases h), kA, h2, comp, h3⟩, ?_⟩
  cases ty <;> first | exact h1 | exact absurd rfl (hp _)
theorem w_arrO {C : String} (h : (Cond.arrayOver (.object C)).before #[Value.ref b] s = true) : ∃ cA : ClassId, ArrOfT s cA (.object C) ∧ va_RA s cA (.object C) := by
  obtain ⟨comp, cA, kA, h1, h2, h3, h4, h5⟩ := Cond.arrayOver_spec h
  exact ⟨cA, fun n z => ⟨fun k h => (by cases h), kA, h3, comp, h4⟩, kA, comp, h3, h4, h1, h5⟩
/-- the array classes -/
theorem w_tys (hts : ∀ w ∈ lw_tbl, w.before #[Value.ref b] s = true) : ∃ g : Nat → ClassId, ∀ (k : Nat) (q : ClassId × FieldType), ([(g 0, .int), (g 1, .byte), (g 2, .short), (g 3, .object RX8), (g 4, .object RX3), (g 5, .object RX4), (g 6, .object RX5)] : List (ClassId × FieldType))[k]? = some q → ArrOfT s q.1 q.2 ∧ va_RA s q.1 q.2 := by
  obtain ⟨c0, h0⟩ := w_arr (ty := .int) (fun C z => by cases z) (hts _ (by decide +kernel))
  obtain ⟨c1, h1⟩ := w_arr (ty := .byte) (fun C z => by cases z) (hts _ (by decide +kernel))
  obtain ⟨c2, h2⟩ := w_arr (ty := .short) (fun C z => by cases z) (hts _ (by decide +kernel))
  obtain ⟨c3, h3⟩ := w_arrO (C := RX8) (hts _ (by decide +kernel))
  obtain ⟨c4, h4⟩ := w_arrO (C := RX3) (hts _ (by decide +kernel))
  obtain ⟨c5, h5⟩ := w_arrO (C := RX4) (hts _ (by decide +kernel))
  obtain ⟨c6, h6⟩ := w_arrO (C := RX5) (hts _ (by decide +kernel))
  refine ⟨fun k => [c0, c1, c2, c3, c4, c5, c6].getD k c0, ?_⟩
  intro k q hq
  match k, hq with
  | 0, hq => cases hq; exact h0
  | 1, hq => cases hq; exact h1
  | 2, hq => cases hq; exact h2
  | 3, hq => cases hq; exact h3
  | 4, hq => cases hq; exact h4
  | 5, hq => cases hq; exact h5
  | 6, hq => cases hq; exact h6
  | k + 7, hq => simp at hq
end WS
