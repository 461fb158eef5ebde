/-! bits laid on the bits of a number; bitCount; spread -/
def SP : Nat → Nat → Nat → Nat
  | 0, _, _ => 0
  | f + 1, o, s => if s % 2 = 1 then o % 2 + 2 * SP f (o / 2) (s / 2) else 2 * SP f o (s / 2)
def CO : Nat → Nat → Nat → Nat
  | 0, _, _ => 0
  | f + 1, x, s => if s % 2 = 1 then x % 2 + 2 * CO f (x / 2) (s / 2) else CO f (x / 2) (s / 2)
/-- x is part of s -/
def sbB : Nat → Nat → Nat → Prop
  | 0, _, _ => True
  | f + 1, x, s => x % 2 ≤ s % 2 ∧ sbB f (x / 2) (s / 2)
theorem SP_lt : ∀ f o s, SP f o s < 2 ^ f
  | 0, _, _ => by show 0 < 1; omega
  | f + 1, o, s => by
    have h1 := SP_lt f (o / 2) (s / 2)
    have h2 := SP_lt f o (s / 2)
    unfold SP
    rw [Nat.pow_succ]
    split <;> omega
theorem SP_sb : ∀ f o s, sbB f (SP f o s) s
  | 0, _, _ => trivial
  | f + 1, o, s => by
    have h1 := SP_sb f (o / 2) (s / 2)
    have h2 := SP_sb f o (s / 2)
    unfold SP sbB
    split
    · rw [show (o % 2 + 2 * SP f (o / 2) (s / 2)) / 2 = SP f (o / 2) (s / 2) by omega]
      exact ⟨by omega, h1⟩
    · rw [show (2 * SP f o (s / 2)) / 2 = SP f o (s / 2) by omega]
      exact ⟨by omega, h2⟩
theorem pcG_lt {f : Nat} : ∀ m o, o < 2 ^ m → m ≤ f → pcG f o = pcG m o := by
  induction f with
  | zero =>
    intro m o _ h
    have e : m = 0 := (by omega)
    subst e
    rfl
  | succ f ih =>
    intro m o h h2
    cases m with
    | zero =>
      have e : o = 0 := by have : o < 1 := h; omega
      subst e
      have := ih 0 0 (by decide) (by omega)
      show 0 % 2 + pcG f (0 / 2) = 0
      rw [Nat.zero_div, this]
      rfl
    | succ m =>
      rw [Nat.pow_succ] at h
      show o % 2 + pcG f (o / 2) = o % 2 + pcG m (o / 2)
      rw [ih m (o / 2) (by omega) (by omega)]
theorem SP_pc : ∀ f o s, o < 2 ^ pcG f s → pcG f (SP f o s) = pcG f o
  | 0, o, s, h => rfl
  | f + 1, o, s, h => by
    have hm := pcG_le f (s / 2)
    have e : pcG (f + 1) s = s % 2 + pcG f (s / 2) := rfl
    rw [e] at h
    show (SP (f + 1) o s) % 2 + pcG f ((SP (f + 1) o s) / 2) = o % 2 + pcG f (o / 2)
    unfold SP
    split
    · rename_i c
      rw [c, Nat.add_comm, Nat.pow_succ] at h
      rw [show (o % 2 + 2 * SP f (o / 2) (s / 2)) / 2 = SP f (o / 2) (s / 2) by omega, show (o % 2 + 2 * SP f (o / 2) (s / 2)) % 2 = o % 2 by omega, SP_pc f (o / 2) (s / 2) (by omega)]
    · rename_i c
      rw [show s % 2 = 0 by omega, Nat.zero_add] at h
      rw [show (2 * SP f o (s / 2)) / 2 = SP f o (s / 2) by omega, show (2 * SP f o (s / 2)) % 2 = 0 by omega, SP_pc f o (s / 2) h]
      have h1 := pcG_lt (f := f) _ o h hm
      have h2 := pcG_lt (f := f + 1) _ o h (by omega)
      have h3 : pcG (f + 1) o = o % 2 + pcG f (o / 2) := rfl
      omega
theorem CO_lt : ∀ f x s, CO f x s < 2 ^ pcG f s
  | 0, _, _ => by show 0 < 1; omega
  | f + 1, x, s => by
    have h1 := CO_lt f (x / 2) (s / 2)
    have e : pcG (f + 1) s = s % 2 + pcG f (s / 2) := rfl
    rw [e]
    unfold CO
    split
    · rename_i c
      rw [c, Nat.add_comm 1, Nat.pow_succ]
      omega
    · rename_i c
      rw [show s % 2 = 0 by omega, Nat.zero_add]
      exact h1
theorem SP_CO : ∀ f x s, x < 2 ^ f → sbB f x s → SP f (CO f x s) s = x
  | 0, x, s, h, _ => by
    have : x < 1 := h
    show 0 = x
    omega
  | f + 1, x, s, h, hs => by
    rw [Nat.pow_succ] at h
    have ih := SP_CO f (x / 2) (s / 2) (by omega) hs.2
    have h1 := hs.1
    unfold SP CO
    split
    · rw [show (x % 2 + 2 * CO f (x / 2) (s / 2)) / 2 = CO f (x / 2) (s / 2) by omega, ih]
      omega
    · rw [ih]
      omega
theorem SP_mono : ∀ f o o' s, o' < 2 ^ pcG f s → o < o' → SP f o s < SP f o' s
  | 0, o, o', s, h, h2 => by have : o' < 1 := h; omega
  | f + 1, o, o', s, h, h2 => by
    have e : pcG (f + 1) s = s % 2 + pcG f (s / 2) := rfl
    rw [e] at h
    unfold SP
    split
    · rename_i c
      rw [c, Nat.add_comm, Nat.pow_succ] at h
      by_cases q : o / 2 = o' / 2
      · rw [q]; omega
      · have := SP_mono f (o / 2) (o' / 2) (s / 2) (by omega) (by omega)
        omega
    · rename_i c
      rw [show s % 2 = 0 by omega, Nat.zero_add] at h
      have := SP_mono f o o' (s / 2) h h2
      omega
theorem SP_0 : ∀ f s, SP f 0 s = 0
  | 0, _ => rfl
  | f + 1, s => by
    unfold SP
    rw [Nat.zero_div, SP_0 f, Nat.zero_mod]
    split <;> rfl
theorem sb_le : ∀ f x s, sbB f x s → pcG f x ≤ pcG f s
  | 0, _, _, _ => Nat.le_refl _
  | f + 1, x, s, h => by
    have := sb_le f (x / 2) (s / 2) h.2
    have := h.1
    show x % 2 + pcG f (x / 2) ≤ s % 2 + pcG f (s / 2)
    omega
theorem sb_eq : ∀ f x s, x < 2 ^ f → s < 2 ^ f → sbB f x s → pcG f x = pcG f s → x = s
  | 0, x, s, h1, h2, _, _ => by
    have : x < 1 := h1
    have : s < 1 := h2
    omega
  | f + 1, x, s, h1, h2, h, e => by
    rw [Nat.pow_succ] at h1 h2
    have l := sb_le f (x / 2) (s / 2) h.2
    have l2 := h.1
    have e : x % 2 + pcG f (x / 2) = s % 2 + pcG f (s / 2) := e
    have := sb_eq f (x / 2) (s / 2) (by omega) (by omega) h.2 (by omega)
    omega
theorem sb_iff : ∀ f x s, x < 2 ^ f → (sbB f x s ↔ x &&& s = x)
  | 0, x, s, h => by
    have e : x = 0 := by have : x < 1 := h; omega
    subst e
    exact ⟨fun _ => by simp, fun _ => trivial⟩
  | f + 1, x, s, h => by
    rw [Nat.pow_succ] at h
    have ih := sb_iff f (x / 2) (s / 2) (by omega)
    have e1 : (x &&& s) / 2 = x / 2 &&& s / 2 := Nat.and_div_two
    have e2 : (x &&& s) % 2 = (x % 2) * (s % 2) := by
      have h1 : (x &&& s) % 2 = x % 2 &&& s % 2 := Nat.and_mod_two_pow (n := 1)
      rw [h1]
      rcases Nat.mod_two_eq_zero_or_one x with a | a <;> rcases Nat.mod_two_eq_zero_or_one s with b | b <;> rw [a, b] <;> rfl
    show (x % 2 ≤ s % 2 ∧ sbB f (x / 2) (s / 2)) ↔ _
    rw [ih]
    constructor
    · rintro ⟨h1, h2⟩
      rw [← e1] at h2
      have h3 : (x &&& s) % 2 = x % 2 := by
        rw [e2]
        rcases Nat.mod_two_eq_zero_or_one x with a | a
        · rw [a, Nat.zero_mul]
        · rw [a, show s % 2 = 1 by omega]
      omega
    · intro h1
      rw [h1] at e1 e2
      refine ⟨?_, e1.symm⟩
      rcases Nat.mod_two_eq_zero_or_one x with a | a
      · omega
      · rw [a, Nat.one_mul] at e2
        omega
/-- fewer bits, or as many and no greater -/
def lxl (x y : Nat) : Prop := pcn x < pcn y ∨ (pcn x = pcn y ∧ x ≤ y)
theorem lxl_anti {x y : Nat} (h1 : lxl x y) (h2 : lxl y x) : x = y := by unfold lxl at h1 h2; omega
theorem slG_spec {S : ST} {all : Nat} : ∀ d but b, but + d = all + 1 → (slG S all d but b = b ∨ (slG S all d but b &&& all = slG S all d but b ∧ ftB S (slG S all d but b) = true)) ∧ lxl (slG S all d but b) b ∧ ∀ x, but ≤ x → x ≤ all → x &&& all = x → ftB S x = true → lxl (slG S all d but b) x
  | 0, but, b, h => ⟨Or.inl rfl, Or.inr ⟨rfl, Nat.le_refl _⟩, fun x h1 h2 => by omega⟩
  | d + 1, but, b, h => by
    unfold slG
    split
    · rename_i c
      obtain ⟨i1, i2, i3⟩ := slG_spec (S := S) (all := all) d (but + 1) but (by omega)
      refine ⟨?_, ?_, fun x h1 h2 h3 h4 => ?_⟩
      · rcases i1 with i1 | i1
        · right; rw [i1]; exact ⟨c.1, c.2.2⟩
        · exact Or.inr i1
      · have := c.2.1
        unfold lxl at i2 ⊢
        omega
      · by_cases e : x = but
        · subst e; exact i2
        · exact i3 x (by omega) h2 h3 h4
    · rename_i c
      obtain ⟨i1, i2, i3⟩ := slG_spec (S := S) (all := all) d (but + 1) b (by omega)
      refine ⟨i1, i2, fun x h1 h2 h3 h4 => ?_⟩
      by_cases e : x = but
      · subst e
        have : ¬ (pcn x < pcn b ∨ (pcn x = pcn b ∧ x < b)) := fun q => c ⟨h3, q, h4⟩
        unfold lxl at i2 ⊢
        omega
      · exact i3 x (by omega) h2 h3 h4
def bcF (x : Int32) : Int32 :=
  let a := x - ((x.toUInt32 >>> ((nI 1).toUInt32 &&& Int32.toUInt32 31)).toInt32 &&& 1431655765)
  let b := (a &&& 858993459) + ((a.toUInt32 >>> ((nI 2).toUInt32 &&& Int32.toUInt32 31)).toInt32 &&& 858993459)
  let c := (b + (b.toUInt32 >>> ((nI 4).toUInt32 &&& Int32.toUInt32 31)).toInt32) &&& 252645135
  let d := c + (c.toUInt32 >>> ((nI 8).toUInt32 &&& Int32.toUInt32 31)).toInt32
  let e := d + (d.toUInt32 >>> ((nI 16).toUInt32 &&& Int32.toUInt32 31)).toInt32
  e &&& nI 63
theorem bcF_all : ∀ a : Nat, a < 64 → ∀ b : Nat, b < 64 → bcF (nI (64 * a + b)) = nI (pcn (64 * a + b)) := by decide +kernel
theorem bcF_n {x : Nat} (h : x < 4096) : bcF (nI x) = nI (pcn x) := by
  have := bcF_all (x / 64) (by omega) (x % 64) (by omega)
  rw [show 64 * (x / 64) + x % 64 = x by omega] at this
  exact this
section C22
variable {sc : SC} {S : ST} {Q : Option AV → HM → Prop}
set_option maxRecDepth 100000 in
set_option maxHeartbeats 4000000 in
theorem sJ6_bitCount {x : Nat} (hx : x < 4096) (h : Q (some (aI (nI (pcn x)))) (mk S)) : CT sc mJ6_bitCount_0f7a4 [aI (nI x)] (mk S) Q := by
  refine S_of (by decide) rfl ?_
  show G sc mJ6_bitCount_0f7a4 0 [some (aI (nI x))] [] (mk S) Q
  rw [← bcF_n hx] at h
  refine G_iload_n (pc := 0) dJ6_bitCount_0f7a4_0 rfl rfl ?_
  refine G_iload_n (pc := 1) dJ6_bitCount_0f7a4_1 rfl rfl ?_
  refine G_iconst (pc := 2) (v := nI 1) dJ6_bitCount_0f7a4_2 (by decide) ?_
  refine G_iushr (pc := 3) dJ6_bitCount_0f7a4_3 ?_
  refine G_ldcw (pc := 4) dJ6_bitCount_0f7a4_4 kJ6_265 ?_
  refine G_iand (pc := 7) dJ6_bitCount_0f7a4_7 ?_
  refine G_isub (pc := 8) dJ6_bitCount_0f7a4_8 ?_
  refine G_istore_n (pc := 9) dJ6_bitCount_0f7a4_9 rfl (by decide) rfl ?_
  refine G_iload_n (pc := 10) dJ6_bitCount_0f7a4_10 rfl rfl ?_
  refine G_ldcw (pc := 11) dJ6_bitCount_0f7a4_11 kJ6_266 ?_
  refine G_iand (pc := 14) dJ6_bitCount_0f7a4_14 ?_
  refine G_iload_n (pc := 15) dJ6_bitCount_0f7a4_15 rfl rfl ?_
  refine G_iconst (pc := 16) (v := nI 2) dJ6_bitCount_0f7a4_16 (by decide) ?_
  refine G_iushr (pc := 17) dJ6_bitCount_0f7a4_17 ?_
  refine G_ldcw (pc := 18) dJ6_bitCount_0f7a4_18 kJ6_266 ?_
  refine G_iand (pc := 21) dJ6_bitCount_0f7a4_21 ?_
  refine G_iadd (pc := 22) dJ6_bitCount_0f7a4_22 ?_
  refine G_istore_n (pc := 23) dJ6_bitCount_0f7a4_23 rfl (by decide) rfl ?_
  refine G_iload_n (pc := 24) dJ6_bitCount_0f7a4_24 rfl rfl ?_
  refine G_iload_n (pc := 25) dJ6_bitCount_0f7a4_25 rfl rfl ?_
  refine G_iconst (pc := 26) (v := nI 4) dJ6_bitCount_0f7a4_26 (by decide) ?_
  refine G_iushr (pc := 27) dJ6_bitCount_0f7a4_27 ?_
  refine G_iadd (pc := 28) dJ6_bitCount_0f7a4_28 ?_
  refine G_ldcw (pc := 29) dJ6_bitCount_0f7a4_29 kJ6_267 ?_
  refine G_iand (pc := 32) dJ6_bitCount_0f7a4_32 ?_
  refine G_istore_n (pc := 33) dJ6_bitCount_0f7a4_33 rfl (by decide) rfl ?_
  refine G_iload_n (pc := 34) dJ6_bitCount_0f7a4_34 rfl rfl ?_
  refine G_iload_n (pc := 35) dJ6_bitCount_0f7a4_35 rfl rfl ?_
  refine G_bipush (pc := 36) (v := nI 8) dJ6_bitCount_0f7a4_36 (by decide) ?_
  refine G_iushr (pc := 38) dJ6_bitCount_0f7a4_38 ?_
  refine G_iadd (pc := 39) dJ6_bitCount_0f7a4_39 ?_
  refine G_istore_n (pc := 40) dJ6_bitCount_0f7a4_40 rfl (by decide) rfl ?_
  refine G_iload_n (pc := 41) dJ6_bitCount_0f7a4_41 rfl rfl ?_
  refine G_iload_n (pc := 42) dJ6_bitCount_0f7a4_42 rfl rfl ?_
  refine G_bipush (pc := 43) (v := nI 16) dJ6_bitCount_0f7a4_43 (by decide) ?_
  refine G_iushr (pc := 45) dJ6_bitCount_0f7a4_45 ?_
  refine G_iadd (pc := 46) dJ6_bitCount_0f7a4_46 ?_
  refine G_istore_n (pc := 47) dJ6_bitCount_0f7a4_47 rfl (by decide) rfl ?_
  refine G_iload_n (pc := 48) dJ6_bitCount_0f7a4_48 rfl rfl ?_
  refine G_bipush (pc := 49) (v := nI 63) dJ6_bitCount_0f7a4_49 (by decide) ?_
  refine G_iand (pc := 51) dJ6_bitCount_0f7a4_51 ?_
  refine S_iret (pc := 52) dJ6_bitCount_0f7a4_52 rfl ?_
  exact h
set_option maxRecDepth 100000 in
set_option maxHeartbeats 4000000 in
theorem spread_lp {o s R : Nat} (ho : o < 4096) (hs : s < 4096) (h : Q (some (aI (nI R))) (mk S)) :
    ∀ (d i bits nx : Nat), i + d = 12 → nx ≤ i → bits < 2 ^ i → bits + 2 ^ i * SP d (o / 2 ^ nx) (s / 2 ^ i) = R →
      G sc mX9_spread 7 [some (aI (nI o)), some (aI (nI s)), some (aI (nI bits)), some (aI (nI nx)), some (aI (nI i))] [] (mk S) Q := by
  intro d
  induction d with
  | zero =>
    intro i bits nx hi hn hb hR
    have e : bits = R := by rw [← hR]; show bits = bits + 2 ^ i * 0; omega
    subst e
    refine G_iload (pc := 7) dX9_spread_7 rfl ?_
    refine G_bipush (pc := 9) (v := nI 12) dX9_spread_9 (by decide) ?_
    refine N_icmp_ge (pc := 11) (tgt := 44) dX9_spread_11 (by decide) (by omega) (fun c11 => ?_) (fun c11 => absurd c11 (by omega))
    refine G_iload_n (pc := 44) dX9_spread_44 rfl rfl ?_
    refine S_iret (pc := 45) dX9_spread_45 rfl ?_
    exact h
  | succ d ih =>
    intro i bits nx hi hn hb hR
    have hp : 2 ^ i ≤ 2048 := by
      have : 2 ^ i ≤ 2 ^ 11 := Nat.pow_le_pow_right (by decide) (by omega)
      omega
    have hs2 : 2 ^ (i + 1) = 2 * 2 ^ i := by rw [Nat.pow_succ]; omega
    have ed : s / 2 ^ (i + 1) = s / 2 ^ i / 2 := by rw [Nat.pow_succ, Nat.div_div_eq_div_mul]
    have eo : o / 2 ^ (nx + 1) = o / 2 ^ nx / 2 := by rw [Nat.pow_succ, Nat.div_div_eq_div_mul]
    have e0 : SP (d + 1) (o / 2 ^ nx) (s / 2 ^ i) = if s / 2 ^ i % 2 = 1 then o / 2 ^ nx % 2 + 2 * SP d (o / 2 ^ nx / 2) (s / 2 ^ i / 2) else 2 * SP d (o / 2 ^ nx) (s / 2 ^ i / 2) := rfl
    rw [e0] at hR
    have hob : (o / 2 ^ nx % 2) * 2 ^ i ≤ 1 * 2 ^ i := Nat.mul_le_mul_right _ (by omega)
    refine G_iload (pc := 7) dX9_spread_7 rfl ?_
    refine G_bipush (pc := 9) (v := nI 12) dX9_spread_9 (by decide) ?_
    refine N_icmp_ge (pc := 11) (tgt := 44) dX9_spread_11 (by decide) (by omega) (fun c11 => absurd c11 (by omega)) (fun c11 => ?_)
    refine G_iload_n (pc := 14) dX9_spread_14 rfl rfl ?_
    refine G_iload (pc := 15) dX9_spread_15 rfl ?_
    refine G_ishr (pc := 17) dX9_spread_17 ?_
    rw [shrN (by omega) (by omega)]
    refine G_iconst (pc := 18) (v := nI 1) dX9_spread_18 (by decide) ?_
    refine G_iand (pc := 19) dX9_spread_19 ?_
    rw [and1]
    refine G_iconst (pc := 20) (v := nI 1) dX9_spread_20 (by decide) ?_
    refine N_icmp_ne (pc := 21) (tgt := 38) dX9_spread_21 (by decide) (by omega) (fun c21 => ?_) (fun c21 => ?_)
    · skip
      rw [if_neg c21] at hR
      refine N_iinc (pc := 38) dX9_spread_38 rfl (by decide) rfl ?_
      refine G_goto (pc := 41) (tgt := 7) dX9_spread_41 (by decide) ?_
      first
      | (refine ih (i + 1) bits nx (by omega) (by omega) (by omega) ?_
         rw [ed, hs2, ← hR]
         congr 1
         ac_rfl)
      | (refine ih (i + 1) _ (nx + 1) (by omega) (by omega) (by omega) ?_
         rw [ed, eo, hs2, ← hR, Nat.mul_add, ← Nat.add_assoc]
         congr 1
         · congr 1; exact Nat.mul_comm _ _
         · ac_rfl)
    · skip
      rw [if_pos c21] at hR
      refine G_iload_n (pc := 24) dX9_spread_24 rfl rfl ?_
      refine G_iload_n (pc := 25) dX9_spread_25 rfl rfl ?_
      refine G_iload_n (pc := 26) dX9_spread_26 rfl rfl ?_
      refine G_ishr (pc := 27) dX9_spread_27 ?_
      rw [shrN (by omega) (by omega)]
      refine G_iconst (pc := 28) (v := nI 1) dX9_spread_28 (by decide) ?_
      refine G_iand (pc := 29) dX9_spread_29 ?_
      rw [and1]
      refine G_iload (pc := 30) dX9_spread_30 rfl ?_
      refine G_ishl (pc := 32) dX9_spread_32 ?_
      rw [shlN (by omega) (by omega)]
      refine G_ior (pc := 33) dX9_spread_33 ?_
      rw [orN _ hb]
      refine G_istore_n (pc := 34) dX9_spread_34 rfl (by decide) rfl ?_
      refine N_iinc (pc := 35) dX9_spread_35 rfl (by decide) rfl ?_
      refine N_iinc (pc := 38) dX9_spread_38 rfl (by decide) rfl ?_
      refine G_goto (pc := 41) (tgt := 7) dX9_spread_41 (by decide) ?_
      first
      | (refine ih (i + 1) bits nx (by omega) (by omega) (by omega) ?_
         rw [ed, hs2, ← hR]
         congr 1
         ac_rfl)
      | (refine ih (i + 1) _ (nx + 1) (by omega) (by omega) (by omega) ?_
         rw [ed, eo, hs2, ← hR, Nat.mul_add, ← Nat.add_assoc]
         congr 1
         · congr 1; exact Nat.mul_comm _ _
         · ac_rfl)
set_option maxRecDepth 100000 in
set_option maxHeartbeats 4000000 in
theorem sX9_spread {o s : Nat} (ho : o < 4096) (hs : s < 4096) (h : Q (some (aI (nI (SP 12 o s)))) (mk S)) : CT sc mX9_spread [aI (nI o), aI (nI s)] (mk S) Q := by
  refine S_of (by decide) rfl ?_
  show G sc mX9_spread 0 [some (aI (nI o)), some (aI (nI s)), none, none, none] [] (mk S) Q
  refine G_iconst (pc := 0) (v := nI 0) dX9_spread_0 (by decide) ?_
  refine G_istore_n (pc := 1) dX9_spread_1 rfl (by decide) rfl ?_
  refine G_iconst (pc := 2) (v := nI 0) dX9_spread_2 (by decide) ?_
  refine G_istore_n (pc := 3) dX9_spread_3 rfl (by decide) rfl ?_
  refine G_iconst (pc := 4) (v := nI 0) dX9_spread_4 (by decide) ?_
  refine G_istore (pc := 5) dX9_spread_5 (by decide) rfl ?_
  exact spread_lp ho hs h 12 0 0 0 (by omega) (by omega) (by decide) (by simp)
end C22
