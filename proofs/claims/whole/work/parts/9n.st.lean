/-! the law from its first instruction -/
section ST0
variable {sc : SC} {Q : Option AV → HM → Prop}
set_option maxRecDepth 100000 in
set_option maxHeartbeats 4000000 in
theorem law_start (hI : IV Si 0) (hN : sc.1 ≤ 3072) (hQ : ∀ S, Q (some (aI (bI true))) (mkL S)) : G sc mL_law 0 [some (aE 1), none, none, none] [] (mkC Si, 0, 0, 600000, 7302250) Q := by
  refine I_new (pc := 0) (ci' := 8) (N := 14) dL_law_0 (by decide +kernel) rfl rfl (by omega) (by omega) ?_
  refine G_dup (pc := 3) dL_law_3 rfl ?_
  refine I_call (av := []) (pc := 4) (z := mX9_init) dL_law_4 zX9_init lL_law_9 rfl ?_ ?_ (i_X9 (fun j q1 q2 => rfl) (Nat.le_refl _) (Nat.le_refl _) ⟨_, rfl, ?_⟩)
  · exact ⟨by omega, by omega⟩
  · exact ⟨by omega, by omega⟩
  refine G_astore_n (pc := 7) dL_law_7 rfl (by decide) rfl ?_
  refine I_new (pc := 8) (ci' := 9) (N := 34) dL_law_8 (by decide +kernel) rfl rfl (by omega) (by omega) ?_
  refine G_dup (pc := 11) dL_law_11 rfl ?_
  refine I_call (av := []) (pc := 12) (z := mX10_init) dL_law_12 zX10_init lL_law_12 rfl ?_ ?_ (i_X10 (fun j q1 q2 => rfl) (Nat.le_refl _) (Nat.le_refl _) ⟨_, rfl, ?_⟩)
  · exact ⟨by omega, by omega⟩
  · exact ⟨by omega, by omega⟩
  refine G_astore_n (pc := 15) dL_law_15 rfl (by decide) rfl ?_
  refine G_iconst (pc := 16) (v := nI 0) dL_law_16 (by decide) ?_
  refine G_istore_n (pc := 17) dL_law_17 rfl (by decide) rfl ?_
  exact law_lp hN hQ sc.1 0 0 Si (by omega) (by omega) (by omega) hI
end ST0
