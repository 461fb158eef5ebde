/-! the invariant holds of the fresh state -/
theorem si_th : thN Si = 0 := by decide
theorem si_dg : dgN Si = 0 := by decide
theorem si_kp : kpN Si = 0 := by decide
theorem si_sh : shL Si 0 = [] := by
  unfold shL
  rw [si_th]
  rfl
theorem si_z {a i : Nat} (h : ¬ (a = 410 ∧ i < 4)) : Si.2.1 a i = 0 := if_neg h
theorem si_es (t : Nat) : esN Si t = 0 := by
  unfold esN
  rw [si_z (by omega)]
  rfl
theorem si_rs (t : Nat) : rsN Si t = 0 := by
  unfold rsN
  rw [si_z (by omega)]
  rfl
theorem IV_Si : IV Si 0 := by
  refine ⟨⟨⟨⟨⟨by rw [si_th]; rfl, by rw [si_th]; omega⟩, fun t ht => by rw [si_th] at ht; omega⟩, fun t ht => by rw [si_th] at ht; omega, ⟨⟨by rw [si_dg]; rfl, by rw [si_dg]; omega⟩, fun t ht => by rw [si_th] at ht; omega⟩, by rw [si_sh]; simp, fun t ht => by rw [si_es, si_z (by omega)]; exact ⟨rfl, by omega⟩⟩, ⟨by rw [si_th]; rfl, fun t ht => ⟨fun q => by rw [si_th] at q; omega, fun _ => ?_⟩⟩, ⟨by rw [si_dg]; rfl, fun j hj => by rw [si_dg] at hj; omega⟩, ⟨⟨[], 0, ?_⟩, Or.inl rfl⟩, Or.inl rfl⟩, ⟨⟨⟨by rw [si_kp]; rfl, by rw [si_kp]; omega⟩, fun p hp => by rw [si_kp] at hp; omega⟩, by rw [si_kp]; rfl, fun p hp => by rw [si_kp] at hp; omega⟩, ⟨fun k hk => ?_, fun k hk => ⟨?_, fun q => ?_, fun i hi => ?_⟩⟩, TP_nil rfl rfl, ⟨[], ⟨rfl, fun i hi => by simp at hi⟩, fun x hx => ?_, by simp, fun q hq => by simp at hq⟩, by rw [si_dg]; omega⟩
  · exact Si_z (by omega)
  · refine ⟨⟨rfl, by omega⟩, ⟨rfl, by simp⟩, fun q hq => by simp at hq, fun _ => 0, ?_, ?_, ?_⟩
    · exact ⟨fun x q => ⟨si_z (by omega), Nat.le_refl _⟩, fun x q z => absurd rfl z, fun i g1 g2 => by omega, fun x _ _ => rfl, fun x q z => absurd rfl z⟩
    · exact fun x c _ _ z => absurd rfl z
    · exact fun i hi => by simp at hi
  · have e : Si.2.1 410 k = -1 := if_pos ⟨rfl, hk⟩
    rw [si_rs, e, si_z (by omega)]
    exact ⟨⟨rfl, by omega⟩, by decide, by decide⟩
  · have e : Si.2.1 410 k = -1 := if_pos ⟨rfl, hk⟩
    rw [e]
    exact if_pos (Or.inr ⟨by omega, by omega, by omega, rfl⟩)
  · have e : Si.2.1 410 k = -1 := if_pos ⟨rfl, hk⟩
    rw [e] at q
    exact absurd q (by decide)
  · rw [si_z (by omega), si_z (by omega)]
  · rw [si_z (by omega)]
    rfl
theorem law_all {sc : SC} {Q : Option AV → HM → Prop} (hN : sc.1 ≤ 3072) (hQ : ∀ S, Q (some (aI (bI true))) (mkL S)) : G sc mL_law 0 [some (aE 1), none, none, none] [] (mkC Si, 0, 0, 600000, 7302250) Q := law_start IV_Si hN hQ
