/-! the model: findPieces, the typed pieces -/
def onG (m : Nat) : List Nat → Nat → Nat → Nat
  | [], _, acc => acc
  | _ :: r, k, acc => onG m r (k + 1) (acc + m * 2 ^ (4 * k))
def ftG (S : ST) (m : Nat) : List Nat → Bool → Bool
  | [], b => b
  | t :: r, b => ftG S m r (b && decide (m ≤ esN S t))
def bkG (S : ST) (m : Nat) : List Nat → Nat → Bool → Nat → Nat
  | [], _, _, acc => acc
  | t :: r, k, b, acc => bkG S m r (k + 1) (b && decide (m ≤ esN S t)) (acc + (if (b && decide (m ≤ esN S t)) = true then esN S t - m else 0) * 2 ^ (4 * k))
/-- the typed piece of m bytes with which all ends begin; with which all close -/
def tyF (S : ST) (ts : List Nat) (m : Nat) : Option Nat := if ftG S m ts true = true then typG S 0 m ts 0 0 else none
def tyB (S : ST) (ts : List Nat) (m : Nat) : Option Nat := if ftG S m ts true = true then typG S (bkG S m ts 0 true 0) m ts 0 0 else none
theorem onG_lt {m : Nat} (hm : m ≤ 15) : ∀ (r : List Nat) (k acc : Nat), acc < 2 ^ (4 * k) → onG m r k acc < 2 ^ (4 * (k + r.length))
  | [], k, acc, h => h
  | t :: r, k, acc, h => by
    have := onG_lt hm r (k + 1) (acc + m * 2 ^ (4 * k)) (p16_lt h hm)
    rw [show k + (t :: r).length = k + 1 + r.length by simp; omega]
    exact this
theorem bkG_lt {S : ST} {m : Nat} : ∀ (r : List Nat) (k : Nat) (b : Bool) (acc : Nat), (∀ t ∈ r, esN S t ≤ 12) → acc < 2 ^ (4 * k) → bkG S m r k b acc < 2 ^ (4 * (k + r.length))
  | [], k, b, acc, _, h => h
  | t :: r, k, b, acc, ht, h => by
    have h3 := ht t List.mem_cons_self
    have := bkG_lt (m := m) r (k + 1) (b && decide (m ≤ esN S t)) (acc + (if (b && decide (m ≤ esN S t)) = true then esN S t - m else 0) * 2 ^ (4 * k)) (fun u hu => ht u (List.mem_cons_of_mem _ hu)) (p16_lt h (by split <;> omega))
    rw [show k + (t :: r).length = k + 1 + r.length by simp; omega]
    exact this
theorem typG_lt {S : ST} {n q : Nat} (hq : q ≤ 3) : ∀ (r : List Nat) (k f v : Nat), (∀ t ∈ r, ∀ j, j < esN S t → isBy (enB S t j)) → f < 67108864 → typG S n q r k f = some v → v < 67108864
  | [], k, f, v, _, h, e => by cases e; exact h
  | t :: r, k, f, v, hby, h, e => by
    have hz : nib n k + q ≤ esN S t → typN S t (nib n k) q 0 (q * 16777216) < q * 16777216 + 2 ^ (8 * q) := fun hc => typN_lt q 0 _ (fun j _ g2 => by have := (isBy_n (hby t List.mem_cons_self (nib n k + j) (by omega))).2.2; omega)
    have hz2 : 2 ^ (8 * q) ≤ 16777216 := by rcases (show q = 0 ∨ q = 1 ∨ q = 2 ∨ q = 3 by omega) with rfl | rfl | rfl | rfl <;> decide
    unfold typG at e
    split at e
    · rename_i hc
      split at e
      · cases e
      · have := hz hc
        exact typG_lt hq r (k + 1) _ v (fun u hu => hby u (List.mem_cons_of_mem _ hu)) (by omega) e
    · cases e
theorem typG_ge {S : ST} {n q : Nat} : ∀ (r : List Nat) (k f v : Nat), (r = [] → q * 16777216 ≤ f) → typG S n q r k f = some v → q * 16777216 ≤ v
  | [], k, f, v, h, e => by cases e; exact h rfl
  | t :: r, k, f, v, _, e => by
    unfold typG at e
    split at e
    · split at e
      · cases e
      · exact typG_ge r (k + 1) _ v (fun _ => typN_ge q 0 _) e
    · cases e
section M23
variable {sc : SC} {S : ST} {Q : Option AV → HM → Prop}
set_option maxRecDepth 100000 in
set_option maxHeartbeats 4000000 in
theorem findPieces_lp3 {m z : Nat} {o6 : Option AV} (hm : 1 ≤ m ∧ m ≤ 3) (hz : z ≤ 4) (hsm : S.1 389 13 = nI z) :
    ∀ (r : List Nat) (k on bk : Nat) (b : Bool), k + r.length = z → (∀ i, i < r.length → S.2.1 398 (k + i) = nI (r.getD i 0)) → (∀ t ∈ r, t < 12 ∧ S.2.1 394 t = nI (esN S t) ∧ esN S t ≤ 12) → on < 2 ^ (4 * k) → bk < 2 ^ (4 * k) →
      G sc mX10_findPieces 175 [some (aR 389), some (aI (nI m)), some (aI (nI (onG m r k on))), some (aI (nI (bkG S m r k b bk))), some (aI (bI (ftG S m r b))), some (aI (nI z)), o6] [] (mk S) Q →
      G sc mX10_findPieces 92 [some (aR 389), some (aI (nI m)), some (aI (nI on)), some (aI (nI bk)), some (aI (bI b)), some (aI (nI k)), o6] [] (mk S) Q := by
  intro r
  induction r with
  | nil =>
    intro k on bk b hk _ _ _ _ h
    have hk : k + 0 = z := hk
    have e : k = z := by omega
    subst e
    refine G_iload (pc := 92) dX10_findPieces_92 rfl ?_
    refine G_aload_n (pc := 94) dX10_findPieces_94 rfl rfl ?_
    refine S_getI (pc := 95) dX10_findPieces_95 fX10_164 rfl (by first | rfl | assumption) rfl ?_
    rw [hsm]
    refine N_icmp_ge (pc := 98) (tgt := 175) dX10_findPieces_98 (by decide) (by omega) (fun c98 => ?_) (fun c98 => absurd c98 (by omega))
    exact h
  | cons t r ih =>
    intro k on bk b hk hsh hts hon hbk h
    have hk : k + (r.length + 1) = z := hk
    obtain ⟨t1, t2, t3⟩ := hts t List.mem_cons_self
    have hsk : S.2.1 398 k = nI t := hsh 0 (by simp)
    have h16 := p16_le (show k ≤ 3 by omega)
    have gm := Nat.mul_le_mul_right (2 ^ (4 * k)) (show m ≤ 15 by omega)
    have ge := Nat.mul_le_mul_right (2 ^ (4 * k)) (show esN S t - m ≤ 15 by omega)
    have K : ∀ (b' : Bool) (bk' : Nat), b' = (b && decide (m ≤ esN S t)) → bk' = bk + (if (b && decide (m ≤ esN S t)) = true then esN S t - m else 0) * 2 ^ (4 * k) → G sc mX10_findPieces 92 [some (aR 389), some (aI (nI m)), some (aI (nI (on + m * 2 ^ (4 * k)))), some (aI (nI bk')), some (aI (bI b')), some (aI (nI (k + 1))), o6] [] (mk S) Q := by
      intro b' bk' e1 e2
      rw [e1, e2]
      exact ih (k + 1) _ _ _ (by omega) (fun i hi => by rw [show k + 1 + i = k + (i + 1) by omega, hsh (i + 1) (by simp; omega)]; simp) (fun u hu => hts u (List.mem_cons_of_mem _ hu)) (p16_lt hon (by omega)) (p16_lt hbk (by split <;> omega)) h
    refine G_iload (pc := 92) dX10_findPieces_92 rfl ?_
    refine G_aload_n (pc := 94) dX10_findPieces_94 rfl rfl ?_
    refine S_getI (pc := 95) dX10_findPieces_95 fX10_164 rfl (by first | rfl | assumption) rfl ?_
    rw [hsm]
    refine N_icmp_ge (pc := 98) (tgt := 175) dX10_findPieces_98 (by decide) (by omega) (fun c98 => absurd c98 (by omega)) (fun c98 => ?_)
    refine G_iload_n (pc := 101) dX10_findPieces_101 rfl rfl ?_
    refine G_iload_n (pc := 102) dX10_findPieces_102 rfl rfl ?_
    refine G_iconst (pc := 103) (v := nI 4) dX10_findPieces_103 (by decide) ?_
    refine G_iload (pc := 104) dX10_findPieces_104 rfl ?_
    refine N_imul (pc := 106) dX10_findPieces_106 ?_
    refine G_ishl (pc := 107) dX10_findPieces_107 ?_
    rw [shlN (by omega) (by omega)]
    refine G_ior (pc := 108) dX10_findPieces_108 ?_
    rw [orN m hon]
    refine G_istore_n (pc := 109) dX10_findPieces_109 rfl (by decide) rfl ?_
    refine G_iload (pc := 110) dX10_findPieces_110 rfl ?_
    refine B_if_eq (pc := 112) (tgt := 135) dX10_findPieces_112 (by decide) (fun c112 => ?_) (fun c112 => ?_)
    · skip
      have c112' : (b && decide (m ≤ esN S t)) = false := by rw [c112]; rfl
      refine G_iconst (pc := 135) (v := nI 0) dX10_findPieces_135 (by decide) ?_
      refine G_istore (pc := 136) dX10_findPieces_136 (by decide) rfl ?_
      first
      | (have K := K false bk c112'.symm (by rw [c112']; simp)
         refine G_iload_n (pc := 138) dX10_findPieces_138 rfl rfl ?_
         refine G_iload (pc := 139) dX10_findPieces_139 rfl ?_
         refine N_if_eq (pc := 141) (tgt := 166) dX10_findPieces_141 (by decide) (by omega) (fun c141 => ?_) (fun c141 => absurd c141 (by omega))
         refine G_iconst (pc := 166) (v := nI 0) dX10_findPieces_166 (by decide) ?_
         refine G_ior (pc := 167) dX10_findPieces_167 ?_
         rw [show nI bk ||| nI 0 = nI bk from by rw [show (0 : Nat) = 0 * 2 ^ (4 * k) by simp, orN 0 hbk]; simp]
         refine G_istore_n (pc := 168) dX10_findPieces_168 rfl (by decide) rfl ?_
         refine N_iinc (pc := 169) dX10_findPieces_169 rfl (by decide) rfl ?_
         refine G_goto (pc := 172) (tgt := 92) dX10_findPieces_172 (by decide) ?_
         exact K
        )
      | (have K := K true _ c112'.symm rfl
         rw [c112'] at K
         refine G_iload_n (pc := 138) dX10_findPieces_138 rfl rfl ?_
         refine G_iload (pc := 139) dX10_findPieces_139 rfl ?_
         refine N_if_eq (pc := 141) (tgt := 166) dX10_findPieces_141 (by decide) (by omega) (fun c141 => absurd c141 (by omega)) (fun c141 => ?_)
         refine G_aload_n (pc := 144) dX10_findPieces_144 rfl rfl ?_
         refine S_getR (pc := 145) (b := 394) dX10_findPieces_145 fX10_22 rfl rfl (by first | rfl | assumption) rfl rfl ?_
         refine G_aload_n (pc := 148) dX10_findPieces_148 rfl rfl ?_
         refine S_getR (pc := 149) (b := 398) dX10_findPieces_149 fX10_34 rfl rfl (by first | rfl | assumption) rfl rfl ?_
         refine G_iload (pc := 152) dX10_findPieces_152 rfl ?_
         refine N_iald (pc := 154) dX10_findPieces_154 (by first | rfl | assumption) (by first | rfl | assumption) (by omega) ?_
         rw [hsk]
         refine N_iald (pc := 155) dX10_findPieces_155 (by first | rfl | assumption) (by first | rfl | assumption) (by omega) ?_
         rw [t2]
         refine G_iload_n (pc := 156) dX10_findPieces_156 rfl rfl ?_
         refine N_isub (pc := 157) dX10_findPieces_157 (by omega) ?_
         refine G_iconst (pc := 158) (v := nI 4) dX10_findPieces_158 (by decide) ?_
         refine G_iload (pc := 159) dX10_findPieces_159 rfl ?_
         refine N_imul (pc := 161) dX10_findPieces_161 ?_
         refine G_ishl (pc := 162) dX10_findPieces_162 ?_
         rw [shlN (by omega) (by omega)]
         refine G_goto (pc := 163) (tgt := 167) dX10_findPieces_163 (by decide) ?_
         refine G_ior (pc := 167) dX10_findPieces_167 ?_
         rw [orN (esN S t - m) hbk]
         refine G_istore_n (pc := 168) dX10_findPieces_168 rfl (by decide) rfl ?_
         refine N_iinc (pc := 169) dX10_findPieces_169 rfl (by decide) rfl ?_
         refine G_goto (pc := 172) (tgt := 92) dX10_findPieces_172 (by decide) ?_
         exact K
        )
    · skip
      refine G_aload_n (pc := 115) dX10_findPieces_115 rfl rfl ?_
      refine S_getR (pc := 116) (b := 394) dX10_findPieces_116 fX10_22 rfl rfl (by first | rfl | assumption) rfl rfl ?_
      refine G_aload_n (pc := 119) dX10_findPieces_119 rfl rfl ?_
      refine S_getR (pc := 120) (b := 398) dX10_findPieces_120 fX10_34 rfl rfl (by first | rfl | assumption) rfl rfl ?_
      refine G_iload (pc := 123) dX10_findPieces_123 rfl ?_
      refine N_iald (pc := 125) dX10_findPieces_125 (by first | rfl | assumption) (by first | rfl | assumption) (by omega) ?_
      rw [hsk]
      refine N_iald (pc := 126) dX10_findPieces_126 (by first | rfl | assumption) (by first | rfl | assumption) (by omega) ?_
      rw [t2]
      refine G_iload_n (pc := 127) dX10_findPieces_127 rfl rfl ?_
      refine N_icmp_lt (pc := 128) (tgt := 135) dX10_findPieces_128 (by decide) (by omega) (fun c128 => ?_) (fun c128 => ?_)
      · skip
        have c112' : (b && decide (m ≤ esN S t)) = false := by rw [c112, decide_eq_false (by omega)]; rfl
        refine G_iconst (pc := 135) (v := nI 0) dX10_findPieces_135 (by decide) ?_
        refine G_istore (pc := 136) dX10_findPieces_136 (by decide) rfl ?_
        first
        | (have K := K false bk c112'.symm (by rw [c112']; simp)
           refine G_iload_n (pc := 138) dX10_findPieces_138 rfl rfl ?_
           refine G_iload (pc := 139) dX10_findPieces_139 rfl ?_
           refine N_if_eq (pc := 141) (tgt := 166) dX10_findPieces_141 (by decide) (by omega) (fun c141 => ?_) (fun c141 => absurd c141 (by omega))
           refine G_iconst (pc := 166) (v := nI 0) dX10_findPieces_166 (by decide) ?_
           refine G_ior (pc := 167) dX10_findPieces_167 ?_
           rw [show nI bk ||| nI 0 = nI bk from by rw [show (0 : Nat) = 0 * 2 ^ (4 * k) by simp, orN 0 hbk]; simp]
           refine G_istore_n (pc := 168) dX10_findPieces_168 rfl (by decide) rfl ?_
           refine N_iinc (pc := 169) dX10_findPieces_169 rfl (by decide) rfl ?_
           refine G_goto (pc := 172) (tgt := 92) dX10_findPieces_172 (by decide) ?_
           exact K
          )
        | (have K := K true _ c112'.symm rfl
           rw [c112'] at K
           refine G_iload_n (pc := 138) dX10_findPieces_138 rfl rfl ?_
           refine G_iload (pc := 139) dX10_findPieces_139 rfl ?_
           refine N_if_eq (pc := 141) (tgt := 166) dX10_findPieces_141 (by decide) (by omega) (fun c141 => absurd c141 (by omega)) (fun c141 => ?_)
           refine G_aload_n (pc := 144) dX10_findPieces_144 rfl rfl ?_
           refine S_getR (pc := 145) (b := 394) dX10_findPieces_145 fX10_22 rfl rfl (by first | rfl | assumption) rfl rfl ?_
           refine G_aload_n (pc := 148) dX10_findPieces_148 rfl rfl ?_
           refine S_getR (pc := 149) (b := 398) dX10_findPieces_149 fX10_34 rfl rfl (by first | rfl | assumption) rfl rfl ?_
           refine G_iload (pc := 152) dX10_findPieces_152 rfl ?_
           refine N_iald (pc := 154) dX10_findPieces_154 (by first | rfl | assumption) (by first | rfl | assumption) (by omega) ?_
           rw [hsk]
           refine N_iald (pc := 155) dX10_findPieces_155 (by first | rfl | assumption) (by first | rfl | assumption) (by omega) ?_
           rw [t2]
           refine G_iload_n (pc := 156) dX10_findPieces_156 rfl rfl ?_
           refine N_isub (pc := 157) dX10_findPieces_157 (by omega) ?_
           refine G_iconst (pc := 158) (v := nI 4) dX10_findPieces_158 (by decide) ?_
           refine G_iload (pc := 159) dX10_findPieces_159 rfl ?_
           refine N_imul (pc := 161) dX10_findPieces_161 ?_
           refine G_ishl (pc := 162) dX10_findPieces_162 ?_
           rw [shlN (by omega) (by omega)]
           refine G_goto (pc := 163) (tgt := 167) dX10_findPieces_163 (by decide) ?_
           refine G_ior (pc := 167) dX10_findPieces_167 ?_
           rw [orN (esN S t - m) hbk]
           refine G_istore_n (pc := 168) dX10_findPieces_168 rfl (by decide) rfl ?_
           refine N_iinc (pc := 169) dX10_findPieces_169 rfl (by decide) rfl ?_
           refine G_goto (pc := 172) (tgt := 92) dX10_findPieces_172 (by decide) ?_
           exact K
          )
      · skip
        have c112' : (b && decide (m ≤ esN S t)) = true := by rw [c112, decide_eq_true (by omega)]; rfl
        refine G_iconst (pc := 131) (v := nI 1) dX10_findPieces_131 (by decide) ?_
        refine G_goto (pc := 132) (tgt := 136) dX10_findPieces_132 (by decide) ?_
        refine G_istore (pc := 136) dX10_findPieces_136 (by decide) rfl ?_
        first
        | (have K := K false bk c112'.symm (by rw [c112']; simp)
           refine G_iload_n (pc := 138) dX10_findPieces_138 rfl rfl ?_
           refine G_iload (pc := 139) dX10_findPieces_139 rfl ?_
           refine N_if_eq (pc := 141) (tgt := 166) dX10_findPieces_141 (by decide) (by omega) (fun c141 => ?_) (fun c141 => absurd c141 (by omega))
           refine G_iconst (pc := 166) (v := nI 0) dX10_findPieces_166 (by decide) ?_
           refine G_ior (pc := 167) dX10_findPieces_167 ?_
           rw [show nI bk ||| nI 0 = nI bk from by rw [show (0 : Nat) = 0 * 2 ^ (4 * k) by simp, orN 0 hbk]; simp]
           refine G_istore_n (pc := 168) dX10_findPieces_168 rfl (by decide) rfl ?_
           refine N_iinc (pc := 169) dX10_findPieces_169 rfl (by decide) rfl ?_
           refine G_goto (pc := 172) (tgt := 92) dX10_findPieces_172 (by decide) ?_
           exact K
          )
        | (have K := K true _ c112'.symm rfl
           rw [c112'] at K
           refine G_iload_n (pc := 138) dX10_findPieces_138 rfl rfl ?_
           refine G_iload (pc := 139) dX10_findPieces_139 rfl ?_
           refine N_if_eq (pc := 141) (tgt := 166) dX10_findPieces_141 (by decide) (by omega) (fun c141 => absurd c141 (by omega)) (fun c141 => ?_)
           refine G_aload_n (pc := 144) dX10_findPieces_144 rfl rfl ?_
           refine S_getR (pc := 145) (b := 394) dX10_findPieces_145 fX10_22 rfl rfl (by first | rfl | assumption) rfl rfl ?_
           refine G_aload_n (pc := 148) dX10_findPieces_148 rfl rfl ?_
           refine S_getR (pc := 149) (b := 398) dX10_findPieces_149 fX10_34 rfl rfl (by first | rfl | assumption) rfl rfl ?_
           refine G_iload (pc := 152) dX10_findPieces_152 rfl ?_
           refine N_iald (pc := 154) dX10_findPieces_154 (by first | rfl | assumption) (by first | rfl | assumption) (by omega) ?_
           rw [hsk]
           refine N_iald (pc := 155) dX10_findPieces_155 (by first | rfl | assumption) (by first | rfl | assumption) (by omega) ?_
           rw [t2]
           refine G_iload_n (pc := 156) dX10_findPieces_156 rfl rfl ?_
           refine N_isub (pc := 157) dX10_findPieces_157 (by omega) ?_
           refine G_iconst (pc := 158) (v := nI 4) dX10_findPieces_158 (by decide) ?_
           refine G_iload (pc := 159) dX10_findPieces_159 rfl ?_
           refine N_imul (pc := 161) dX10_findPieces_161 ?_
           refine G_ishl (pc := 162) dX10_findPieces_162 ?_
           rw [shlN (by omega) (by omega)]
           refine G_goto (pc := 163) (tgt := 167) dX10_findPieces_163 (by decide) ?_
           refine G_ior (pc := 167) dX10_findPieces_167 ?_
           rw [orN (esN S t - m) hbk]
           refine G_istore_n (pc := 168) dX10_findPieces_168 rfl (by decide) rfl ?_
           refine N_iinc (pc := 169) dX10_findPieces_169 rfl (by decide) rfl ?_
           refine G_goto (pc := 172) (tgt := 92) dX10_findPieces_172 (by decide) ?_
           exact K
          )
end M23
