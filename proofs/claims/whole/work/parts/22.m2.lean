/-! the model: turned, costOf, kindOf, byteOf, runOf, placeOf -/
def turnI (t : Nat) (c : Int32) : Int32 := if t = 1 ∧ isSma c = true then c - nI 32 else if t = 2 ∧ isCap c = true then c + nI 32 else c
def costN (p : Nat) : Nat := if 16777216 ≤ p then 2 + p / 16777216 else if p % 3 = 0 then 4 else 5
def kindN (c : Int32) : Nat := if isDig c then 1 else if isSma c then 2 else if isCap c then 3 else 4
/-- where the run that i stands in ends -/
def rend (b : Nat → Int32) (n k : Nat) : Nat → Nat → Nat
  | 0, i => i
  | f + 1, i => if i < n ∧ isKd k (b i) = true then rend b n k f (i + 1) else i
def rnx (b : Nat → Int32) (n k i : Nat) : Nat := if k = 3 then i + 1 else rend b n k n (i + 1)
def runsG (b : Nat → Int32) (n k : Nat) : Nat → Nat → List (Nat × Nat)
  | 0, _ => []
  | f + 1, i => if i < n then (if isKd k (b i) = true then (i, rnx b n k i) :: runsG b n k f (rnx b n k i) else runsG b n k f (i + 1)) else []
def runs (b : Nat → Int32) (n k : Nat) : List (Nat × Nat) := runsG b n k n 0
def fnd (w s : Nat) : List (Nat × Nat) → Nat → Option Nat → Option Nat
  | [], _, f => f
  | q :: l, r, f => fnd w s l (r + 1) (if w = 2 ∨ w = r then some (if s = 0 then q.1 else q.2) else f)
def oI (o : Option Nat) : Int32 := match o with
  | some q => nI q
  | none => -4
/-- the place p of a line -/
def pl (b : Nat → Int32) (n p : Nat) : Option Nat :=
  if p < 8 then (if p ≤ n then some p else none) else if p < 16 then (if p - 8 ≤ n then some (n - (p - 8)) else none)
  else fnd ((p - 16) % 3) ((p - 16) / 3 % 2) (runs b n ((p - 16) / 6)) 0 none
theorem rend_ge (b : Nat → Int32) (n k : Nat) : ∀ f i, i ≤ rend b n k f i
  | 0, i => Nat.le_refl _
  | f + 1, i => by
    unfold rend
    split
    · exact Nat.le_trans (Nat.le_succ i) (rend_ge b n k f (i + 1))
    · exact Nat.le_refl _
theorem rend_le (b : Nat → Int32) (n k : Nat) : ∀ f i, i ≤ n → rend b n k f i ≤ n
  | 0, i, h => h
  | f + 1, i, h => by
    unfold rend
    split
    · rename_i q
      exact rend_le b n k f (i + 1) q.1
    · exact h
theorem rend_fuel (b : Nat → Int32) (n k : Nat) : ∀ f g i, n - i ≤ f → n - i ≤ g → rend b n k f i = rend b n k g i
  | 0, 0, i, _, _ => rfl
  | 0, g + 1, i, h, _ => by
    unfold rend
    rw [if_neg (by omega)]
  | f + 1, 0, i, _, h => by
    unfold rend
    rw [if_neg (by omega)]
  | f + 1, g + 1, i, h1, h2 => by
    unfold rend
    split
    · exact rend_fuel b n k f g (i + 1) (by omega) (by omega)
    · rfl
theorem rnx_gt (b : Nat → Int32) (n k i : Nat) : i < rnx b n k i := by
  unfold rnx
  split
  · omega
  · have := rend_ge b n k n (i + 1)
    omega
theorem rnx_le (b : Nat → Int32) (n k i : Nat) (h : i < n) : rnx b n k i ≤ n := by
  unfold rnx
  split
  · omega
  · exact rend_le b n k n (i + 1) h
section M2
variable {sc : SC} {S : ST} {Q : Option AV → HM → Prop}
set_option maxRecDepth 100000 in
set_option maxHeartbeats 4000000 in
theorem sX10_turned {c : Int32} {t : Nat} (ht : t < 3) (h : Q (some (aI (turnI t c))) (mk S)) : CT sc mX10_turned [aI c, aI (nI t)] (mk S) Q := by
  refine S_of (by decide) rfl ?_
  show G sc mX10_turned 0 [some (aI c), some (aI (nI t))] [] (mk S) Q
  refine G_iload_n (pc := 0) dX10_turned_0 rfl rfl ?_
  refine G_iconst (pc := 1) (v := nI 1) dX10_turned_1 (by decide) ?_
  refine N_icmp_ne (pc := 2) (tgt := 19) dX10_turned_2 (by decide) (by omega) (fun c2 => ?_) (fun c2 => ?_)
  · skip
    refine G_iload_n (pc := 19) dX10_turned_19 rfl rfl ?_
    refine G_iconst (pc := 20) (v := nI 2) dX10_turned_20 (by decide) ?_
    refine N_icmp_ne (pc := 21) (tgt := 38) dX10_turned_21 (by decide) (by omega) (fun c21 => ?_) (fun c21 => ?_)
    · skip
      refine G_iload_n (pc := 38) dX10_turned_38 rfl rfl ?_
      refine S_iret (pc := 39) dX10_turned_39 rfl ?_
      exact q_i h (by simp only [turnI]; simp_all)
    · skip
      refine G_iload_n (pc := 24) dX10_turned_24 rfl rfl ?_
      refine S_callS (av := [_]) (pc := 25) (z := mX10_isCapital) dX10_turned_25 zX10_isCapital lX10_turned_126 rfl (sX10_isCapital ⟨_, rfl, ?_⟩)
      refine B_if_eq (pc := 28) (tgt := 38) dX10_turned_28 (by decide) (fun c28 => ?_) (fun c28 => ?_)
      · skip
        refine G_iload_n (pc := 38) dX10_turned_38 rfl rfl ?_
        refine S_iret (pc := 39) dX10_turned_39 rfl ?_
        exact q_i h (by simp only [turnI]; simp_all)
      · skip
        refine G_iload_n (pc := 31) dX10_turned_31 rfl rfl ?_
        refine G_bipush (pc := 32) (v := nI 32) dX10_turned_32 (by decide) ?_
        refine G_iadd (pc := 34) dX10_turned_34 ?_
        refine G_goto (pc := 35) (tgt := 39) dX10_turned_35 (by decide) ?_
        refine S_iret (pc := 39) dX10_turned_39 rfl ?_
        exact q_i h (by simp only [turnI]; simp_all)
  · skip
    refine G_iload_n (pc := 5) dX10_turned_5 rfl rfl ?_
    refine S_callS (av := [_]) (pc := 6) (z := mX10_isSmall) dX10_turned_6 zX10_isSmall lX10_turned_129 rfl (sX10_isSmall ⟨_, rfl, ?_⟩)
    refine B_if_eq (pc := 9) (tgt := 19) dX10_turned_9 (by decide) (fun c9 => ?_) (fun c9 => ?_)
    · skip
      refine G_iload_n (pc := 19) dX10_turned_19 rfl rfl ?_
      refine G_iconst (pc := 20) (v := nI 2) dX10_turned_20 (by decide) ?_
      refine N_icmp_ne (pc := 21) (tgt := 38) dX10_turned_21 (by decide) (by omega) (fun c21 => ?_) (fun c21 => ?_)
      · skip
        refine G_iload_n (pc := 38) dX10_turned_38 rfl rfl ?_
        refine S_iret (pc := 39) dX10_turned_39 rfl ?_
        exact q_i h (by simp only [turnI]; simp_all)
      · skip
        refine G_iload_n (pc := 24) dX10_turned_24 rfl rfl ?_
        refine S_callS (av := [_]) (pc := 25) (z := mX10_isCapital) dX10_turned_25 zX10_isCapital lX10_turned_126 rfl (sX10_isCapital ⟨_, rfl, ?_⟩)
        refine B_if_eq (pc := 28) (tgt := 38) dX10_turned_28 (by decide) (fun c28 => ?_) (fun c28 => ?_)
        · skip
          refine G_iload_n (pc := 38) dX10_turned_38 rfl rfl ?_
          refine S_iret (pc := 39) dX10_turned_39 rfl ?_
          exact q_i h (by simp only [turnI]; simp_all)
        · skip
          refine G_iload_n (pc := 31) dX10_turned_31 rfl rfl ?_
          refine G_bipush (pc := 32) (v := nI 32) dX10_turned_32 (by decide) ?_
          refine G_iadd (pc := 34) dX10_turned_34 ?_
          refine G_goto (pc := 35) (tgt := 39) dX10_turned_35 (by decide) ?_
          refine S_iret (pc := 39) dX10_turned_39 rfl ?_
          exact q_i h (by simp only [turnI]; simp_all)
    · skip
      refine G_iload_n (pc := 12) dX10_turned_12 rfl rfl ?_
      refine G_bipush (pc := 13) (v := nI 32) dX10_turned_13 (by decide) ?_
      refine G_isub (pc := 15) dX10_turned_15 ?_
      refine G_goto (pc := 16) (tgt := 39) dX10_turned_16 (by decide) ?_
      refine S_iret (pc := 39) dX10_turned_39 rfl ?_
      exact q_i h (by simp only [turnI]; simp_all)
set_option maxRecDepth 100000 in
set_option maxHeartbeats 4000000 in
theorem sX10_kindOf {c : Int32} (h : Q (some (aI (nI (kindN c)))) (mk S)) : CT sc mX10_kindOf [aI c] (mk S) Q := by
  refine S_of (by decide) rfl ?_
  show G sc mX10_kindOf 0 [some (aI c)] [] (mk S) Q
  refine G_iload_n (pc := 0) dX10_kindOf_0 rfl rfl ?_
  refine S_callS (av := [_]) (pc := 1) (z := mX10_isDigit) dX10_kindOf_1 zX10_isDigit lX10_kindOf_123 rfl (sX10_isDigit ⟨_, rfl, ?_⟩)
  refine B_if_eq (pc := 4) (tgt := 11) dX10_kindOf_4 (by decide) (fun c4 => ?_) (fun c4 => ?_)
  · skip
    refine G_iload_n (pc := 11) dX10_kindOf_11 rfl rfl ?_
    refine S_callS (av := [_]) (pc := 12) (z := mX10_isSmall) dX10_kindOf_12 zX10_isSmall lX10_kindOf_129 rfl (sX10_isSmall ⟨_, rfl, ?_⟩)
    refine B_if_eq (pc := 15) (tgt := 22) dX10_kindOf_15 (by decide) (fun c15 => ?_) (fun c15 => ?_)
    · skip
      refine G_iload_n (pc := 22) dX10_kindOf_22 rfl rfl ?_
      refine S_callS (av := [_]) (pc := 23) (z := mX10_isCapital) dX10_kindOf_23 zX10_isCapital lX10_kindOf_126 rfl (sX10_isCapital ⟨_, rfl, ?_⟩)
      refine B_if_eq (pc := 26) (tgt := 33) dX10_kindOf_26 (by decide) (fun c26 => ?_) (fun c26 => ?_)
      · skip
        refine G_iconst (pc := 33) (v := nI 4) dX10_kindOf_33 (by decide) ?_
        refine S_iret (pc := 34) dX10_kindOf_34 rfl ?_
        exact q_i h (by simp [kindN, *])
      · skip
        refine G_iconst (pc := 29) (v := nI 3) dX10_kindOf_29 (by decide) ?_
        refine G_goto (pc := 30) (tgt := 34) dX10_kindOf_30 (by decide) ?_
        refine S_iret (pc := 34) dX10_kindOf_34 rfl ?_
        exact q_i h (by simp [kindN, *])
    · skip
      refine G_iconst (pc := 18) (v := nI 2) dX10_kindOf_18 (by decide) ?_
      refine G_goto (pc := 19) (tgt := 34) dX10_kindOf_19 (by decide) ?_
      refine S_iret (pc := 34) dX10_kindOf_34 rfl ?_
      exact q_i h (by simp [kindN, *])
  · skip
    refine G_iconst (pc := 7) (v := nI 1) dX10_kindOf_7 (by decide) ?_
    refine G_goto (pc := 8) (tgt := 34) dX10_kindOf_8 (by decide) ?_
    refine S_iret (pc := 34) dX10_kindOf_34 rfl ?_
    exact q_i h (by simp [kindN, *])
theorem k149 : Cond.constant RX10 149 (nI 16777216) ∈ gTs := kX10_149
set_option maxRecDepth 100000 in
set_option maxHeartbeats 4000000 in
theorem sX10_costOf {p : Nat} (hp : p < 2147483648) (h : Q (some (aI (nI (costN p)))) (mk S)) : CT sc mX10_costOf [aI (nI p)] (mk S) Q := by
  refine S_of (by decide) rfl ?_
  show G sc mX10_costOf 0 [some (aI (nI p))] [] (mk S) Q
  have hk : (16777216 : Int32) = nI 16777216 := rfl
  refine G_iload_n (pc := 0) dX10_costOf_0 rfl rfl ?_
  refine G_ldc (pc := 1) dX10_costOf_1 kX10_149 ?_
  rw [hk]
  refine N_icmp_lt (pc := 3) (tgt := 15) dX10_costOf_3 (by decide) (by omega) (fun c3 => ?_) (fun c3 => ?_)
  · skip
    refine G_iload_n (pc := 15) dX10_costOf_15 rfl rfl ?_
    refine G_iconst (pc := 16) (v := nI 3) dX10_costOf_16 (by decide) ?_
    refine N_irem (pc := 17) dX10_costOf_17 (by omega) ?_
    refine N_if_ne (pc := 18) (tgt := 25) dX10_costOf_18 (by decide) (by omega) (fun c18 => ?_) (fun c18 => ?_)
    · skip
      refine G_iconst (pc := 25) (v := nI 5) dX10_costOf_25 (by decide) ?_
      refine S_iret (pc := 26) dX10_costOf_26 rfl ?_
      exact q_i h (congrArg nI (by simp only [costN]; split <;> (try split) <;> omega))
    · skip
      refine G_iconst (pc := 21) (v := nI 4) dX10_costOf_21 (by decide) ?_
      refine G_goto (pc := 22) (tgt := 26) dX10_costOf_22 (by decide) ?_
      refine S_iret (pc := 26) dX10_costOf_26 rfl ?_
      exact q_i h (congrArg nI (by simp only [costN]; split <;> (try split) <;> omega))
  · skip
    refine G_iconst (pc := 6) (v := nI 2) dX10_costOf_6 (by decide) ?_
    refine G_iload_n (pc := 7) dX10_costOf_7 rfl rfl ?_
    refine G_ldc (pc := 8) dX10_costOf_8 kX10_149 ?_
    rw [hk]
    refine N_idiv (pc := 10) dX10_costOf_10 (by omega) ?_
    refine N_iadd (pc := 11) dX10_costOf_11 ?_
    refine G_goto (pc := 12) (tgt := 26) dX10_costOf_12 (by decide) ?_
    refine S_iret (pc := 26) dX10_costOf_26 rfl ?_
    exact q_i h (congrArg nI (by simp only [costN]; split <;> (try split) <;> omega))
end M2
