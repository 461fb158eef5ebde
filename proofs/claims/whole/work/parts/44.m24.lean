/-! the model: findPieces -/
def tApp (F : List (Nat × Nat)) (o : Option Nat) (n : Nat) : List (Nat × Nat) := match o with
  | some p => F ++ [(p, n)]
  | none => F
theorem tApp_len {F : List (Nat × Nat)} {n : Nat} {o : Option Nat} : (tApp F o n).length ≤ F.length + 1 := by
  unfold tApp
  split
  · simp
  · omega
def frT (S : ST) (ts : List Nat) : Nat → Nat → List (Nat × Nat) → List (Nat × Nat)
  | 0, _, F => F
  | d + 1, m, F => frT S ts d (m + 1) (tApp F (tyF S ts m) (onG m ts 0 0))
def bhT (S : ST) (ts : List Nat) : Nat → Nat → List (Nat × Nat) → List (Nat × Nat)
  | 0, _, F => F
  | d + 1, m, F => bhT S ts d (m + 1) (tApp F (tyB S ts m) (onG m ts 0 0))
/-- all pieces that begin the ends; that close them -/
def frA (S : ST) (ts : List Nat) : List (Nat × Nat) := frT S ts 3 1 (pcF S ts false 4800)
def bhA (S : ST) (ts : List Nat) : List (Nat × Nat) := bhT S ts 3 1 (pcF S ts true 4800)
theorem ftG_eq {S S' : ST} (h : Fr pX pA S S') (m : Nat) : ∀ (r : List Nat) (b : Bool), ftG S' m r b = ftG S m r b
  | [], _ => rfl
  | t :: r, b => by
    have e4 : esN S' t = esN S t := by unfold esN; rw [h.2.1 394 (by omega)]
    unfold ftG
    rw [e4, ftG_eq h m r]
theorem bkG_eq {S S' : ST} (h : Fr pX pA S S') (m : Nat) : ∀ (r : List Nat) (k : Nat) (b : Bool) (acc : Nat), bkG S' m r k b acc = bkG S m r k b acc
  | [], _, _, _ => rfl
  | t :: r, k, b, acc => by
    have e4 : esN S' t = esN S t := by unfold esN; rw [h.2.1 394 (by omega)]
    unfold bkG
    rw [e4, bkG_eq h m r]
section M24
variable {sc : SC} {S : ST} {Q : Option AV → HM → Prop}
set_option maxRecDepth 100000 in
set_option maxHeartbeats 4000000 in
theorem findPieces_lp4 {S0 : ST} {ts : List Nat} (hts : TsOk S0 ts) (hsh : ShIs S0 ts) (hby : EnBy S0 ts) :
    ∀ (d m : Nat) (S : ST) (F B : List (Nat × Nat)) (o2 o3 o4 o5 o6 : Option AV), m + d = 4 → 1 ≤ m → Fr pX pA S0 S → FrIs S F → BhL S B → BhC S B → F.length ≤ 4799 + m → B.length ≤ 4799 + m →
      (∀ S', Fr pX pA S0 S' → FrIs S' (frT S0 ts d m F) → BhL S' (bhT S0 ts d m B) → BhC S' (bhT S0 ts d m B) → Q none (mk S')) →
      G sc mX10_findPieces 77 [some (aR 389), some (aI (nI m)), o2, o3, o4, o5, o6] [] (mk S) Q := by
  intro d
  induction d with
  | zero =>
    intro m S F B o2 o3 o4 o5 o6 hm _ hF h1 h2 h3 _ _ h
    refine G_iload_n (pc := 77) dX10_findPieces_77 rfl rfl ?_
    refine G_iconst (pc := 78) (v := nI 3) dX10_findPieces_78 (by decide) ?_
    refine N_icmp_gt (pc := 79) (tgt := 251) dX10_findPieces_79 (by decide) (by omega) (fun c79 => ?_) (fun c79 => absurd c79 (by omega))
    refine S_vret (pc := 251) dX10_findPieces_251 rfl ?_
    exact h S hF h1 h2 h3
  | succ d ih =>
    intro m S F B o2 o3 o4 o5 o6 hm hm1 hF h1 h2 h3 hlF hlB h
    have ht4 := hts.1
    have hon := onG_lt (m := m) (by omega) ts 0 0 (by decide)
    have hbk := bkG_lt (S := S0) (m := m) ts 0 true 0 (fun t q => (hts.2 t q).2.2.2.2.2) (by decide)
    have h44 := p16_4 (show 0 + ts.length ≤ 4 by omega)
    have hfe : ftG S m ts true = ftG S0 m ts true := ftG_eq hF m ts true
    have hbe : bkG S m ts 0 true 0 = bkG S0 m ts 0 true 0 := bkG_eq hF m ts 0 true 0
    have hsS := ShIs_eq hF hsh
    have htS := TsOk_eq hF hts
    -- behind the second note
    have K3 : ∀ (S2 : ST) (F2 : List (Nat × Nat)) (a5 : Option AV), Fr pX pA S0 S2 → FrIs S2 F2 → BhL S2 B → BhC S2 B → F2.length ≤ 4800 + m → (∀ S', Fr pX pA S0 S' → FrIs S' (frT S0 ts d (m + 1) F2) → BhL S' (bhT S0 ts (d + 1) m B) → BhC S' (bhT S0 ts (d + 1) m B) → Q none (mk S')) →
        G sc mX10_findPieces 228 [some (aR 389), some (aI (nI m)), some (aI (nI (onG m ts 0 0))), some (aI (nI (bkG S0 m ts 0 true 0))), some (aI (bI (ftG S0 m ts true))), a5, some (aI (oI (tyB S0 ts m)))] [] (mk S2) Q := by
      intro S2 F2 a5 hF2 f2 b2 c2 hl2 h
      have e0 : bhT S0 ts (d + 1) m B = bhT S0 ts d (m + 1) (tApp B (tyB S0 ts m) (onG m ts 0 0)) := rfl
      rw [e0] at h
      rcases hty : tyB S0 ts m with _ | p
      · rw [hty] at h
        refine G_aload_n (pc := 228) dX10_findPieces_228 rfl rfl ?_
        refine G_iload (pc := 229) dX10_findPieces_229 rfl ?_
        refine G_iload (pc := 231) dX10_findPieces_231 rfl ?_
        refine T_if_ge (pc := 233) (tgt := 241) dX10_findPieces_233 (by decide) (fun c233 => absurd c233 (by decide)) (fun c233 => ?_)
        refine G_bipush (pc := 236) (v := (-4)) dX10_findPieces_236 (by decide) ?_
        refine G_goto (pc := 238) (tgt := 242) dX10_findPieces_238 (by decide) ?_
        refine S_callV (av := [_, _]) (pc := 242) (z := mX10_noteBehind) (ci := 9) dX10_findPieces_242 zX10_noteBehind lX10_findPieces_189 rfl (by first | rfl | assumption) rfl rfl (noteBehind_no (by decide) ⟨_, rfl, ?_⟩)
        refine N_iinc (pc := 245) dX10_findPieces_245 rfl (by decide) rfl ?_
        refine G_goto (pc := 248) (tgt := 77) dX10_findPieces_248 (by decide) ?_
        exact ih (m + 1) S2 F2 B _ _ _ _ _ (by omega) (by omega) hF2 f2 b2 c2 (by omega) (by omega) h
      · rw [hty] at h
        have hpl : p < 67108864 := by
          unfold tyB at hty
          split at hty
          · exact typG_lt (by omega) ts 0 0 p hby (by decide) hty
          · cases hty
        show G sc mX10_findPieces 228 [some (aR 389), some (aI (nI m)), some (aI (nI (onG m ts 0 0))), some (aI (nI (bkG S0 m ts 0 true 0))), some (aI (bI (ftG S0 m ts true))), a5, some (aI (nI p))] [] (mk S2) Q
        refine G_aload_n (pc := 228) dX10_findPieces_228 rfl rfl ?_
        refine G_iload (pc := 229) dX10_findPieces_229 rfl ?_
        refine G_iload (pc := 231) dX10_findPieces_231 rfl ?_
        refine N_if_ge (pc := 233) (tgt := 241) dX10_findPieces_233 (by decide) (by omega) ?_
        refine G_iload_n (pc := 241) dX10_findPieces_241 rfl rfl ?_
        refine S_callV (av := [_, _]) (pc := 242) (z := mX10_noteBehind) (ci := 9) dX10_findPieces_242 zX10_noteBehind lX10_findPieces_189 rfl (by first | rfl | assumption) rfl rfl (noteBehind_yes b2 c2 (by omega) (by omega) (fun S3 g1 g2 g3 => ⟨_, rfl, ?_⟩))
        refine N_iinc (pc := 245) dX10_findPieces_245 rfl (by decide) rfl ?_
        refine G_goto (pc := 248) (tgt := 77) dX10_findPieces_248 (by decide) ?_
        exact ih (m + 1) S3 F2 (B ++ [(p, onG m ts 0 0)]) _ _ _ _ _ (by omega) (by omega) (hF2.tr (bF g1)) (FrIs_k f2 (g1.1 389 15 (by omega)) (g1.2.1 399 (by omega)) (g1.2.1 400 (by omega))) g2 g3 (by omega) (by simp; omega) h
    -- from the second typed piece on
    have K2 : ∀ (S2 : ST) (F2 : List (Nat × Nat)) (x5 : Int32), Fr pX pA S0 S2 → FrIs S2 F2 → BhL S2 B → BhC S2 B → F2.length ≤ 4800 + m → (∀ S', Fr pX pA S0 S' → FrIs S' (frT S0 ts d (m + 1) F2) → BhL S' (bhT S0 ts (d + 1) m B) → BhC S' (bhT S0 ts (d + 1) m B) → Q none (mk S')) →
        G sc mX10_findPieces 210 [some (aR 389), some (aI (nI m)), some (aI (nI (onG m ts 0 0))), some (aI (nI (bkG S0 m ts 0 true 0))), some (aI (bI (ftG S0 m ts true))), some (aI x5), o6] [] (mk S2) Q := by
      intro S2 F2 x5 hF2 f2 b2 c2 hl2 h
      have K3 := K3 S2 F2 (some (aI x5)) hF2 f2 b2 c2 hl2 h
      refine G_iload (pc := 210) dX10_findPieces_210 rfl ?_
      refine B_if_eq (pc := 212) (tgt := 224) dX10_findPieces_212 (by decide) (fun c212 => ?_) (fun c212 => ?_)
      · skip
        rw [show tyB S0 ts m = none from by unfold tyB; rw [if_neg (by simp [c212])]] at K3
        refine G_bipush (pc := 224) (v := (-4)) dX10_findPieces_224 (by decide) ?_
        refine G_istore (pc := 226) dX10_findPieces_226 (by decide) rfl ?_
        exact K3
      · skip
        rw [show tyB S0 ts m = typG S0 (bkG S0 m ts 0 true 0) m ts 0 0 from by unfold tyB; rw [if_pos c212]] at K3
        refine G_aload_n (pc := 215) dX10_findPieces_215 rfl rfl ?_
        refine G_iload_n (pc := 216) dX10_findPieces_216 rfl rfl ?_
        refine G_iload_n (pc := 217) dX10_findPieces_217 rfl rfl ?_
        refine S_callV (av := [_, _]) (pc := 218) (z := mX10_typedAt) (ci := 9) dX10_findPieces_218 zX10_typedAt lX10_findPieces_192 rfl (by first | rfl | assumption) rfl rfl (sX10_typedAt (by omega) (by omega) (TsOk_eq hF2 hts) (EnBy_eq hF2 hby) (ShIs_eq hF2 hsh) ⟨_, rfl, ?_⟩)
        rw [typG_eq hF2]
        refine G_goto (pc := 221) (tgt := 226) dX10_findPieces_221 (by decide) ?_
        refine G_istore (pc := 226) dX10_findPieces_226 (by decide) rfl ?_
        exact K3
    -- from the first typed piece on
    have K1 : G sc mX10_findPieces 193 [some (aR 389), some (aI (nI m)), some (aI (nI (onG m ts 0 0))), some (aI (nI (bkG S0 m ts 0 true 0))), some (aI (bI (ftG S0 m ts true))), some (aI (oI (tyF S0 ts m))), o6] [] (mk S) Q := by
      have e0 : frT S0 ts (d + 1) m F = frT S0 ts d (m + 1) (tApp F (tyF S0 ts m) (onG m ts 0 0)) := rfl
      rw [e0] at h
      rcases hty : tyF S0 ts m with _ | p
      · rw [hty] at h
        refine G_aload_n (pc := 193) dX10_findPieces_193 rfl rfl ?_
        refine G_iload (pc := 194) dX10_findPieces_194 rfl ?_
        refine G_iload (pc := 196) dX10_findPieces_196 rfl ?_
        refine T_if_ge (pc := 198) (tgt := 206) dX10_findPieces_198 (by decide) (fun c198 => absurd c198 (by decide)) (fun c198 => ?_)
        refine G_bipush (pc := 201) (v := (-4)) dX10_findPieces_201 (by decide) ?_
        refine G_goto (pc := 203) (tgt := 207) dX10_findPieces_203 (by decide) ?_
        refine S_callV (av := [_, _]) (pc := 207) (z := mX10_noteFront) (ci := 9) dX10_findPieces_207 zX10_noteFront lX10_findPieces_185 rfl (by first | rfl | assumption) rfl rfl (noteFront_no (by decide) ⟨_, rfl, ?_⟩)
        exact K2 S F _ hF h1 h2 h3 (by omega) h
      · rw [hty] at h
        have hpl : p < 67108864 := by
          unfold tyF at hty
          split at hty
          · exact typG_lt (by omega) ts 0 0 p hby (by decide) hty
          · cases hty
        show G sc mX10_findPieces 193 [some (aR 389), some (aI (nI m)), some (aI (nI (onG m ts 0 0))), some (aI (nI (bkG S0 m ts 0 true 0))), some (aI (bI (ftG S0 m ts true))), some (aI (nI p)), o6] [] (mk S) Q
        refine G_aload_n (pc := 193) dX10_findPieces_193 rfl rfl ?_
        refine G_iload (pc := 194) dX10_findPieces_194 rfl ?_
        refine G_iload (pc := 196) dX10_findPieces_196 rfl ?_
        refine N_if_ge (pc := 198) (tgt := 206) dX10_findPieces_198 (by decide) (by omega) ?_
        refine G_iload_n (pc := 206) dX10_findPieces_206 rfl rfl ?_
        refine S_callV (av := [_, _]) (pc := 207) (z := mX10_noteFront) (ci := 9) dX10_findPieces_207 zX10_noteFront lX10_findPieces_185 rfl (by first | rfl | assumption) rfl rfl (noteFront_yes h1 (by omega) (by omega) (fun S2 g1 g2 => ⟨_, rfl, ?_⟩))
        exact K2 S2 (F ++ [(p, onG m ts 0 0)]) _ (hF.tr (fF g1)) g2 (BhL_k h2 (g1.1 389 18 (by omega)) (g1.2.1 401 (by omega)) (g1.2.1 402 (by omega))) (BhC_k h3 (g1.2.1 403 (by omega))) (by simp; omega) h
    refine G_iload_n (pc := 77) dX10_findPieces_77 rfl rfl ?_
    refine G_iconst (pc := 78) (v := nI 3) dX10_findPieces_78 (by decide) ?_
    refine N_icmp_gt (pc := 79) (tgt := 251) dX10_findPieces_79 (by decide) (by omega) (fun c79 => absurd c79 (by omega)) (fun c79 => ?_)
    refine G_iconst (pc := 82) (v := nI 0) dX10_findPieces_82 (by decide) ?_
    refine G_istore_n (pc := 83) dX10_findPieces_83 rfl (by decide) rfl ?_
    refine G_iconst (pc := 84) (v := nI 0) dX10_findPieces_84 (by decide) ?_
    refine G_istore_n (pc := 85) dX10_findPieces_85 rfl (by decide) rfl ?_
    refine G_iconst (pc := 86) (v := nI 1) dX10_findPieces_86 (by decide) ?_
    refine G_istore (pc := 87) dX10_findPieces_87 (by decide) rfl ?_
    refine G_iconst (pc := 89) (v := nI 0) dX10_findPieces_89 (by decide) ?_
    refine G_istore (pc := 90) dX10_findPieces_90 (by decide) rfl ?_
    refine findPieces_lp3 (z := ts.length) (by omega) ht4 hsS.1 ts 0 0 0 true (by omega) (fun i hi => by rw [Nat.zero_add]; exact hsS.2 i hi) (fun t q => ⟨(htS.2 t q).1, (htS.2 t q).2.2.2.1, (htS.2 t q).2.2.2.2.2⟩) (by decide) (by decide) ?_
    rw [hfe, hbe]
    refine G_iload (pc := 175) dX10_findPieces_175 rfl ?_
    refine B_if_eq (pc := 177) (tgt := 189) dX10_findPieces_177 (by decide) (fun c177 => ?_) (fun c177 => ?_)
    · skip
      rw [show tyF S0 ts m = none from by unfold tyF; rw [if_neg (by simp [c177])]] at K1
      refine G_bipush (pc := 189) (v := (-4)) dX10_findPieces_189 (by decide) ?_
      refine G_istore (pc := 191) dX10_findPieces_191 (by decide) rfl ?_
      exact K1
    · skip
      rw [show tyF S0 ts m = typG S0 0 m ts 0 0 from by unfold tyF; rw [if_pos c177]] at K1
      refine G_aload_n (pc := 180) dX10_findPieces_180 rfl rfl ?_
      refine G_iconst (pc := 181) (v := nI 0) dX10_findPieces_181 (by decide) ?_
      refine G_iload_n (pc := 182) dX10_findPieces_182 rfl rfl ?_
      refine S_callV (av := [_, _]) (pc := 183) (z := mX10_typedAt) (ci := 9) dX10_findPieces_183 zX10_typedAt lX10_findPieces_192 rfl (by first | rfl | assumption) rfl rfl (sX10_typedAt (by omega) (by omega) htS (EnBy_eq hF hby) hsS ⟨_, rfl, ?_⟩)
      rw [typG_eq hF]
      refine G_goto (pc := 186) (tgt := 191) dX10_findPieces_186 (by decide) ?_
      refine G_istore (pc := 191) dX10_findPieces_191 (by decide) rfl ?_
      exact K1
set_option maxRecDepth 100000 in
set_option maxHeartbeats 4000000 in
theorem sX10_findPieces {ts : List Nat} {B : List (Nat × Nat)} (hts : TsOk S ts) (hsh : ShIs S ts) (hby : EnBy S ts) (hB : BhL S B) (hC : BhC S B) (hl : B.length ≤ 4803) (hx : ∀ i, i < B.length → (B.getD i (0, 0)).2 < 65536)
    (h : ∀ S', Fr pX pA S S' → FrIs S' (frA S ts) → BhL S' (bhA S ts) → BhC S' (bhA S ts) → Q none (mk S')) : CT sc mX10_findPieces [aR 389] (mk S) Q := by
  refine S_of (by decide) rfl ?_
  show G sc mX10_findPieces 0 [some (aR 389), none, none, none, none, none, none] [] (mk S) Q
  refine G_iconst (pc := 0) (v := nI 0) dX10_findPieces_0 (by decide) ?_
  refine G_istore_n (pc := 1) dX10_findPieces_1 rfl (by decide) rfl ?_
  refine findPieces_lp1 hB hC hl hx B.length 0 S (by omega) Fr.rf hB (fun x _ => Or.inl rfl) (fun i hi => by omega) (fun S1 g1 g2 => ?_)
  have hF : Fr pX pA S (upX (upX S1 389 15 (nI 0)) 389 18 (nI 0)) := ((bF g1).tr (Fr.upX ⟨rfl, Or.inr (Or.inl rfl)⟩)).tr (Fr.upX ⟨rfl, Or.inr (Or.inr rfl)⟩)
  refine G_aload_n (pc := 28) dX10_findPieces_28 rfl rfl ?_
  refine G_iconst (pc := 29) (v := nI 0) dX10_findPieces_29 (by decide) ?_
  refine S_putI (pc := 30) dX10_findPieces_30 fX10_175 (by decide) rfl (by first | rfl | assumption) rfl ?_
  refine G_aload_n (pc := 33) dX10_findPieces_33 rfl rfl ?_
  refine G_iconst (pc := 34) (v := nI 0) dX10_findPieces_34 (by decide) ?_
  refine S_putI (pc := 35) dX10_findPieces_35 fX10_178 (by decide) rfl (by first | rfl | assumption) rfl ?_
  refine G_iconst (pc := 38) (v := nI 0) dX10_findPieces_38 (by decide) ?_
  refine G_istore_n (pc := 39) dX10_findPieces_39 rfl (by decide) rfl ?_
  refine findPieces_lp2 hts hsh 4800 0 _ (by omega) hF ⟨by rw [upX_n (by omega), upX_s]; rfl, fun i hi => by simp [pcF] at hi⟩ ⟨by rw [upX_s]; rfl, fun i hi => by simp [pcF] at hi⟩ (fun x hx2 => g2 x hx2) (fun S2 k1 k2 k3 k4 => ?_)
  refine G_iconst (pc := 75) (v := nI 1) dX10_findPieces_75 (by decide) ?_
  refine G_istore_n (pc := 76) dX10_findPieces_76 rfl (by decide) rfl ?_
  exact findPieces_lp4 hts hsh hby 3 1 S2 _ _ _ _ _ _ _ (by omega) (by omega) k1 k2 k3 k4 (pcF_len S ts false 4800) (pcF_len S ts true 4800) h
end M24
