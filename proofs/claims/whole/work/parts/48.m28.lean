/-! the model: findNearest -/
section M28
variable {sc : SC} {S : ST} {Q : Option AV → HM → Prop}
set_option maxRecDepth 100000 in
set_option maxHeartbeats 4000000 in
theorem nearest_lp3 {S0 : ST} {ts : List Nat} {F B : List (Nat × Nat)} {c f : Nat} (hp : PcOk S0 ts F B) (hc : c ≤ 15) (hf : f < F.length) :
    ∀ (d m : Nat) (S : ST) (N : List (List Nat)) (o4 : Option AV), m + d = 4 → 1 ≤ m → Fr nX nA S0 S → NeIs S N → (∀ (S' : ST) (o4 : Option AV), Fr nX nA S0 S' → NeIs S' (tk N (thrM S0 ts F B c f d m)) → G sc mX10_findNearest 221 [some (aR 389), some (aI (nI c)), some (aI (nI f)), some (aI (nI 4)), o4] [] (mk S') Q) →
      G sc mX10_findNearest 159 [some (aR 389), some (aI (nI c)), some (aI (nI f)), some (aI (nI m)), o4] [] (mk S) Q := by
  intro d
  induction d with
  | zero =>
    intro m S N o4 hm _ hFr hN h
    have e : m = 4 := by omega
    subst e
    refine G_iload_n (pc := 159) dX10_findNearest_159 rfl rfl ?_
    refine G_iconst (pc := 160) (v := nI 3) dX10_findNearest_160 (by decide) ?_
    refine N_icmp_gt (pc := 161) (tgt := 221) dX10_findNearest_161 (by decide) (by omega) (fun c161 => ?_) (fun c161 => absurd c161 (by omega))
    exact h S _ hFr (by rw [show thrM S0 ts F B c f 0 4 = [] from rfl, tk_nil hN.1]; exact hN)
  | succ d ih =>
    intro m S N o4 hm hm1 hFr hN h
    obtain ⟨a1, a2, a3, a4, a5, a6, a7, a8, a9, a10⟩ := PcOk_n hFr hp
    have hq := a4.2 f hf
    have hb := a9 f hf
    have hcc := costN_lt hb.1
    have e0 : thrM S0 ts F B c f (d + 1) m = thr1 S0 ts F B c f m ++ thrM S0 ts F B c f d (m + 1) := rfl
    rw [e0, ← tk_tk] at h
    have ety := typG_e (SpE_n hFr) (F.getD f (0, 0)).2 m ts 0 0
    rcases hty : typG S0 (F.getD f (0, 0)).2 m ts 0 0 with _ | w
    · rw [show thr1 S0 ts F B c f m = [] from by unfold thr1; rw [hty], tk_nil hN.1] at h
      refine G_iload_n (pc := 159) dX10_findNearest_159 rfl rfl ?_
      refine G_iconst (pc := 160) (v := nI 3) dX10_findNearest_160 (by decide) ?_
      refine N_icmp_gt (pc := 161) (tgt := 221) dX10_findNearest_161 (by decide) (by omega) (fun c161 => absurd c161 (by omega)) (fun c161 => ?_)
      refine G_aload_n (pc := 164) dX10_findNearest_164 rfl rfl ?_
      refine G_aload_n (pc := 165) dX10_findNearest_165 rfl rfl ?_
      refine S_getR (pc := 166) (b := 400) dX10_findNearest_166 fX10_40 rfl rfl (by first | rfl | assumption) rfl rfl ?_
      refine G_iload_n (pc := 169) dX10_findNearest_169 rfl rfl ?_
      refine N_iald (pc := 170) dX10_findNearest_170 (by first | rfl | assumption) (by first | rfl | assumption) (by omega) ?_
      rw [hq.2]
      refine G_iload_n (pc := 171) dX10_findNearest_171 rfl rfl ?_
      refine S_callV (av := [_, _]) (pc := 172) (z := mX10_typedAt) (ci := 9) dX10_findNearest_172 zX10_typedAt lX10_findNearest_192 rfl (by first | rfl | assumption) rfl rfl (sX10_typedAt hb.2 (by omega) a1 a3 a2 ⟨_, rfl, ?_⟩)
      rw [ety, hty]
      refine G_istore (pc := 175) dX10_findNearest_175 (by decide) rfl ?_
      refine G_iload (pc := 177) dX10_findNearest_177 rfl ?_
      refine T_if_lt (pc := 179) (tgt := 215) dX10_findNearest_179 (by decide) (fun c179 => ?_) (fun c179 => absurd c179 (by decide))
      refine N_iinc (pc := 215) dX10_findNearest_215 rfl (by decide) rfl ?_
      refine G_goto (pc := 218) (tgt := 159) dX10_findNearest_218 (by decide) ?_
      exact ih (m + 1) S N _ (by omega) (by omega) hFr hN h
    · have hw : w < 67108864 := typG_lt (by omega) ts 0 0 w (EnBy_e (SpE_n hFr) hp.2.2.1) (by decide) (ety.trans hty)
      rw [show thr1 S0 ts F B c f m = wiO B (F.getD f (0, 0)).1 (some w) (leftG S0 (F.getD f (0, 0)).2 m ts 0 0) ((c : Int) - costN (F.getD f (0, 0)).1 - 2 - m) from by unfold thr1; rw [hty]] at h
      have e9 : (nI c - nI (costN (F.getD f (0, 0)).1) - nI 2 - nI m).toInt = (c : Int) - costN (F.getD f (0, 0)).1 - 2 - m := by
        have q := pk_sub_toInt (a := c) (b := costN (F.getD f (0, 0)).1) (by omega) (by omega)
        have z2 : (nI 2).toInt = 2 := rfl
        have q2 : (nI c - nI (costN (F.getD f (0, 0)).1) - nI 2).toInt = (c : Int) - costN (F.getD f (0, 0)).1 - 2 := by
          rw [sub_toInt (by rw [q, z2]; omega) (by rw [q, z2]; omega), q, z2]
        rw [sub_toInt (by rw [q2, nIt (by omega)]; omega) (by rw [q2, nIt (by omega)]; omega), q2, nIt (by omega)]
      refine G_iload_n (pc := 159) dX10_findNearest_159 rfl rfl ?_
      refine G_iconst (pc := 160) (v := nI 3) dX10_findNearest_160 (by decide) ?_
      refine N_icmp_gt (pc := 161) (tgt := 221) dX10_findNearest_161 (by decide) (by omega) (fun c161 => absurd c161 (by omega)) (fun c161 => ?_)
      refine G_aload_n (pc := 164) dX10_findNearest_164 rfl rfl ?_
      refine G_aload_n (pc := 165) dX10_findNearest_165 rfl rfl ?_
      refine S_getR (pc := 166) (b := 400) dX10_findNearest_166 fX10_40 rfl rfl (by first | rfl | assumption) rfl rfl ?_
      refine G_iload_n (pc := 169) dX10_findNearest_169 rfl rfl ?_
      refine N_iald (pc := 170) dX10_findNearest_170 (by first | rfl | assumption) (by first | rfl | assumption) (by omega) ?_
      rw [hq.2]
      refine G_iload_n (pc := 171) dX10_findNearest_171 rfl rfl ?_
      refine S_callV (av := [_, _]) (pc := 172) (z := mX10_typedAt) (ci := 9) dX10_findNearest_172 zX10_typedAt lX10_findNearest_192 rfl (by first | rfl | assumption) rfl rfl (sX10_typedAt hb.2 (by omega) a1 a3 a2 ⟨_, rfl, ?_⟩)
      rw [ety, hty, show oI (some w) = nI w from rfl]
      refine G_istore (pc := 175) dX10_findNearest_175 (by decide) rfl ?_
      refine G_iload (pc := 177) dX10_findNearest_177 rfl ?_
      refine N_if_lt (pc := 179) (tgt := 215) dX10_findNearest_179 (by decide) (by omega) ?_
      refine G_aload_n (pc := 182) dX10_findNearest_182 rfl rfl ?_
      refine G_iload_n (pc := 183) dX10_findNearest_183 rfl rfl ?_
      refine G_iload (pc := 184) dX10_findNearest_184 rfl ?_
      refine G_aload_n (pc := 186) dX10_findNearest_186 rfl rfl ?_
      refine G_aload_n (pc := 187) dX10_findNearest_187 rfl rfl ?_
      refine S_getR (pc := 188) (b := 400) dX10_findNearest_188 fX10_40 rfl rfl (by first | rfl | assumption) rfl rfl ?_
      refine G_iload_n (pc := 191) dX10_findNearest_191 rfl rfl ?_
      refine N_iald (pc := 192) dX10_findNearest_192 (by first | rfl | assumption) (by first | rfl | assumption) (by omega) ?_
      rw [hq.2]
      refine G_iload_n (pc := 193) dX10_findNearest_193 rfl rfl ?_
      refine S_callV (av := [_, _]) (pc := 194) (z := mX10_leftOf) (ci := 9) dX10_findNearest_194 zX10_leftOf lX10_findNearest_198 rfl (by first | rfl | assumption) rfl rfl (sX10_leftOf hb.2 (by omega) a1 a2 ⟨_, rfl, ?_⟩)
      refine G_iload_n (pc := 197) dX10_findNearest_197 rfl rfl ?_
      refine G_aload_n (pc := 198) dX10_findNearest_198 rfl rfl ?_
      refine S_getR (pc := 199) (b := 399) dX10_findNearest_199 fX10_37 rfl rfl (by first | rfl | assumption) rfl rfl ?_
      refine G_iload_n (pc := 202) dX10_findNearest_202 rfl rfl ?_
      refine N_iald (pc := 203) dX10_findNearest_203 (by first | rfl | assumption) (by first | rfl | assumption) (by omega) ?_
      rw [hq.1]
      refine S_callS (av := [_]) (pc := 204) (z := mX10_costOf) dX10_findNearest_204 zX10_costOf lX10_findNearest_219 rfl (sX10_costOf (by omega) ⟨_, rfl, ?_⟩)
      refine G_isub (pc := 207) dX10_findNearest_207 ?_
      refine G_iconst (pc := 208) (v := nI 2) dX10_findNearest_208 (by decide) ?_
      refine G_isub (pc := 209) dX10_findNearest_209 ?_
      refine G_iload_n (pc := 210) dX10_findNearest_210 rfl rfl ?_
      refine G_isub (pc := 211) dX10_findNearest_211 ?_
      refine S_callV (av := [_, _, _, _]) (pc := 212) (z := mX10_noteWith) (ci := 9) dX10_findNearest_212 zX10_noteWith lX10_findNearest_226 rfl (by first | rfl | assumption) rfl rfl (sX10_noteWith (mid := some w) a4 hf a7 a5 a6 a8 (fun x q => leftF_lt a1 q) a10 hb.1 (fun m q => by cases q; exact hw) hN (fun S2 g1 g2 => ⟨_, rfl, ?_⟩))
      rw [leftG_e (SpE_n hFr), e9] at g2
      refine N_iinc (pc := 215) dX10_findNearest_215 rfl (by decide) rfl ?_
      refine G_goto (pc := 218) (tgt := 159) dX10_findNearest_218 (by decide) ?_
      exact ih (m + 1) S2 _ _ (by omega) (by omega) (hFr.tr g1) g2 h
set_option maxRecDepth 100000 in
set_option maxHeartbeats 4000000 in
theorem nearest_lp4 {S0 : ST} {ts : List Nat} {F B : List (Nat × Nat)} {c : Nat} (hp : PcOk S0 ts F B) (hc : c ≤ 15) :
    ∀ (d f : Nat) (S : ST) (N : List (List Nat)) (o3 o4 : Option AV), f + d = F.length → Fr nX nA S0 S → NeIs S N → (∀ (S' : ST) (f' : Nat) (o3 o4 : Option AV), Fr nX nA S0 S' → NeIs S' (tk N (thrF S0 ts F B c d f)) → G sc mX10_findNearest 227 [some (aR 389), some (aI (nI c)), some (aI (nI f')), o3, o4] [] (mk S') Q) →
      G sc mX10_findNearest 140 [some (aR 389), some (aI (nI c)), some (aI (nI f)), o3, o4] [] (mk S) Q := by
  intro d
  induction d with
  | zero =>
    intro f S N o3 o4 hf hFr hN h
    obtain ⟨a1, a2, a3, a4, a5, a6, a7, a8, a9, a10⟩ := PcOk_n hFr hp
    refine G_iload_n (pc := 140) dX10_findNearest_140 rfl rfl ?_
    refine G_aload_n (pc := 141) dX10_findNearest_141 rfl rfl ?_
    refine S_getI (pc := 142) dX10_findNearest_142 fX10_175 rfl (by first | rfl | assumption) rfl ?_
    rw [a4.1]
    refine N_icmp_ge (pc := 145) (tgt := 227) dX10_findNearest_145 (by decide) (by omega) (fun c145 => ?_) (fun c145 => absurd c145 (by omega))
    exact h S f _ _ hFr (by rw [show thrF S0 ts F B c 0 f = [] from rfl, tk_nil hN.1]; exact hN)
  | succ d ih =>
    intro f S N o3 o4 hf hFr hN h
    obtain ⟨a1, a2, a3, a4, a5, a6, a7, a8, a9, a10⟩ := PcOk_n hFr hp
    have hNl := hN.1
    have e0 : thrF S0 ts F B c (d + 1) f = thrM S0 ts F B c f 3 1 ++ thrF S0 ts F B c d (f + 1) := rfl
    by_cases h64 : N.length = 64
    · skip
      refine G_iload_n (pc := 140) dX10_findNearest_140 rfl rfl ?_
      refine G_aload_n (pc := 141) dX10_findNearest_141 rfl rfl ?_
      refine S_getI (pc := 142) dX10_findNearest_142 fX10_175 rfl (by first | rfl | assumption) rfl ?_
      rw [a4.1]
      refine N_icmp_ge (pc := 145) (tgt := 227) dX10_findNearest_145 (by decide) (by omega) (fun c145 => absurd c145 (by omega)) (fun c145 => ?_)
      refine G_aload_n (pc := 148) dX10_findNearest_148 rfl rfl ?_
      refine S_getI (pc := 149) dX10_findNearest_149 fX10_216 rfl (by first | rfl | assumption) rfl ?_
      rw [hN.2.1]
      refine G_bipush (pc := 152) (v := nI 64) dX10_findNearest_152 (by decide) ?_
      refine N_icmp_ge (pc := 154) (tgt := 227) dX10_findNearest_154 (by decide) (by omega) (fun c154 => ?_) (fun c154 => absurd c154 (by omega))
      exact h S f _ _ hFr (by rw [tk_full h64]; exact hN)
    · rw [e0, ← tk_tk] at h
      refine G_iload_n (pc := 140) dX10_findNearest_140 rfl rfl ?_
      refine G_aload_n (pc := 141) dX10_findNearest_141 rfl rfl ?_
      refine S_getI (pc := 142) dX10_findNearest_142 fX10_175 rfl (by first | rfl | assumption) rfl ?_
      rw [a4.1]
      refine N_icmp_ge (pc := 145) (tgt := 227) dX10_findNearest_145 (by decide) (by omega) (fun c145 => absurd c145 (by omega)) (fun c145 => ?_)
      refine G_aload_n (pc := 148) dX10_findNearest_148 rfl rfl ?_
      refine S_getI (pc := 149) dX10_findNearest_149 fX10_216 rfl (by first | rfl | assumption) rfl ?_
      rw [hN.2.1]
      refine G_bipush (pc := 152) (v := nI 64) dX10_findNearest_152 (by decide) ?_
      refine N_icmp_ge (pc := 154) (tgt := 227) dX10_findNearest_154 (by decide) (by omega) (fun c154 => absurd c154 (by omega)) (fun c154 => ?_)
      refine G_iconst (pc := 157) (v := nI 1) dX10_findNearest_157 (by decide) ?_
      refine G_istore_n (pc := 158) dX10_findNearest_158 rfl (by decide) rfl ?_
      refine nearest_lp3 hp hc (by omega) 3 1 S N _ (by omega) (by omega) hFr hN (fun S2 o4 g1 g2 => ?_)
      refine N_iinc (pc := 221) dX10_findNearest_221 rfl (by decide) rfl ?_
      refine G_goto (pc := 224) (tgt := 140) dX10_findNearest_224 (by decide) ?_
      exact ih (f + 1) S2 _ _ _ (by omega) g1 g2 h
set_option maxRecDepth 100000 in
set_option maxHeartbeats 4000000 in
theorem nearest_lp5 {S0 : ST} {ts : List Nat} {F B : List (Nat × Nat)} (hp : PcOk S0 ts F B) :
    ∀ (d c : Nat) (S : ST) (N : List (List Nat)) (o2 o3 o4 : Option AV), c + d = 16 → 3 ≤ c → Fr nX nA S0 S → NeIs S N → (∀ (S' : ST), Fr nX nA S0 S' → NeIs S' (tk N (cstF S0 ts F B d c)) → Q none (mk S')) →
      G sc mX10_findNearest 16 [some (aR 389), some (aI (nI c)), o2, o3, o4] [] (mk S) Q := by
  intro d
  induction d with
  | zero =>
    intro c S N o2 o3 o4 hc _ hFr hN h
    refine G_iload_n (pc := 16) dX10_findNearest_16 rfl rfl ?_
    refine G_bipush (pc := 17) (v := nI 15) dX10_findNearest_17 (by decide) ?_
    refine N_icmp_gt (pc := 19) (tgt := 233) dX10_findNearest_19 (by decide) (by omega) (fun c19 => ?_) (fun c19 => absurd c19 (by omega))
    refine S_vret (pc := 233) dX10_findNearest_233 rfl ?_
    exact h S hFr (by rw [show cstF S0 ts F B 0 c = [] from rfl, tk_nil hN.1]; exact hN)
  | succ d ih =>
    intro c S N o2 o3 o4 hc hc3 hFr hN h
    have hNl := hN.1
    have e0 : cstF S0 ts F B (d + 1) c = (oneF S0 ts F c F.length 0 ++ (twoF S0 ts F B c F.length 0 ++ thrF S0 ts F B c F.length 0)) ++ cstF S0 ts F B d (c + 1) := rfl
    by_cases h64 : N.length = 64
    · skip
      refine G_iload_n (pc := 16) dX10_findNearest_16 rfl rfl ?_
      refine G_bipush (pc := 17) (v := nI 15) dX10_findNearest_17 (by decide) ?_
      refine N_icmp_gt (pc := 19) (tgt := 233) dX10_findNearest_19 (by decide) (by omega) (fun c19 => absurd c19 (by omega)) (fun c19 => ?_)
      refine G_aload_n (pc := 22) dX10_findNearest_22 rfl rfl ?_
      refine S_getI (pc := 23) dX10_findNearest_23 fX10_216 rfl (by first | rfl | assumption) rfl ?_
      rw [hN.2.1]
      refine G_bipush (pc := 26) (v := nI 64) dX10_findNearest_26 (by decide) ?_
      refine N_icmp_ge (pc := 28) (tgt := 233) dX10_findNearest_28 (by decide) (by omega) (fun c28 => ?_) (fun c28 => absurd c28 (by omega))
      refine S_vret (pc := 233) dX10_findNearest_233 rfl ?_
      exact h S hFr (by rw [tk_full h64]; exact hN)
    · rw [e0, ← tk_tk, ← tk_tk, ← tk_tk] at h
      refine G_iload_n (pc := 16) dX10_findNearest_16 rfl rfl ?_
      refine G_bipush (pc := 17) (v := nI 15) dX10_findNearest_17 (by decide) ?_
      refine N_icmp_gt (pc := 19) (tgt := 233) dX10_findNearest_19 (by decide) (by omega) (fun c19 => absurd c19 (by omega)) (fun c19 => ?_)
      refine G_aload_n (pc := 22) dX10_findNearest_22 rfl rfl ?_
      refine S_getI (pc := 23) dX10_findNearest_23 fX10_216 rfl (by first | rfl | assumption) rfl ?_
      rw [hN.2.1]
      refine G_bipush (pc := 26) (v := nI 64) dX10_findNearest_26 (by decide) ?_
      refine N_icmp_ge (pc := 28) (tgt := 233) dX10_findNearest_28 (by decide) (by omega) (fun c28 => absurd c28 (by omega)) (fun c28 => ?_)
      refine G_iconst (pc := 31) (v := nI 0) dX10_findNearest_31 (by decide) ?_
      refine G_istore_n (pc := 32) dX10_findNearest_32 rfl (by decide) rfl ?_
      refine nearest_lp1 hp (by omega) F.length 0 S N (by omega) hFr hN (fun S2 g1 g2 => ?_)
      refine G_iconst (pc := 85) (v := nI 0) dX10_findNearest_85 (by decide) ?_
      refine G_istore_n (pc := 86) dX10_findNearest_86 rfl (by decide) rfl ?_
      refine nearest_lp2 hp (by omega) F.length 0 S2 _ (by omega) g1 g2 (fun f' S3 g3 g4 => ?_)
      refine G_iconst (pc := 138) (v := nI 0) dX10_findNearest_138 (by decide) ?_
      refine G_istore_n (pc := 139) dX10_findNearest_139 rfl (by decide) rfl ?_
      refine nearest_lp4 hp (by omega) F.length 0 S3 _ _ _ (by omega) g3 g4 (fun S4 f'' o3 o4 g5 g6 => ?_)
      refine N_iinc (pc := 227) dX10_findNearest_227 rfl (by decide) rfl ?_
      refine G_goto (pc := 230) (tgt := 16) dX10_findNearest_230 (by decide) ?_
      exact ih (c + 1) S4 _ _ _ _ (by omega) (by omega) g5 g6 h
end M28
