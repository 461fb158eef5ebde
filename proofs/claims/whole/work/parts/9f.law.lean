/-! the law: a call of every kind, and the loop -/
section IL
variable {sc : SC} {S : ST} {n : Nat} {Q : Option AV → HM → Prop}
def mL_law : MI := (yL_law, cL_law, 4, (some .boolean), 15, 580)
def eWl : List (Nat × Cond) := [(101, .methodLink RL 9 yX9_init), (973, .methodLink RL 12 yX10_init), (380, .methodLink RL 15 yX9_type), (1081, .methodLink RL 19 yX10_type), (394, .methodLink RL 20 yX9_thing), (1092, .methodLink RL 24 yX10_thing), (436, .methodLink RL 25 yX9_line), (1401, .methodLink RL 29 yX10_line), (454, .methodLink RL 30 yX9_byteAt), (1101, .methodLink RL 34 yX10_byteAt), (466, .methodLink RL 35 yX9_place), (1110, .methodLink RL 38 yX10_place), (470, .methodLink RL 39 yX9_made), (1144, .methodLink RL 43 yX10_made), (485, .methodLink RL 44 yX9_show), (1161, .methodLink RL 48 yX10_show), (516, .methodLink RL 49 yX9_forget), (1170, .methodLink RL 52 yX10_forget), (520, .methodLink RL 53 yX9_fitting), (1174, .methodLink RL 57 yX10_fitting), (655, .methodLink RL 58 yX9_shortest), (1220, .methodLink RL 61 yX10_shortest), (664, .methodLink RL 62 yX9_paper), (1247, .methodLink RL 65 yX10_paper), (678, .methodLink RL 66 yX9_differs), (1255, .methodLink RL 69 yX10_differs), (695, .methodLink RL 70 yX9_settle), (1271, .methodLink RL 73 yX10_settle), (706, .methodLink RL 74 yX9_odd), (1275, .methodLink RL 77 yX10_odd), (720, .methodLink RL 78 yX9_slips), (1294, .methodLink RL 81 yX10_slips), (737, .methodLink RL 82 yX9_state), (1305, .methodLink RL 85 yX10_state), (741, .methodLink RL 86 yX9_doing), (1309, .methodLink RL 89 yX10_doing), (753, .methodLink RL 90 yX9_back), (1313, .methodLink RL 93 yX10_back), (757, .methodLink RL 94 yX9_end), (1317, .methodLink RL 97 yX10_end), (761, .methodLink RL 98 yX9_otherwise), (1321, .methodLink RL 101 yX10_otherwise), (766, .methodLink RL 102 yX9_keep), (1325, .methodLink RL 105 yX10_keep), (780, .methodLink RL 106 yX9_text), (1333, .methodLink RL 109 yX10_text), (920, .methodLink RL 110 yX9_kept), (1365, .methodLink RL 113 yX10_kept), (928, .methodLink RL 114 yX9_run), (1373, .methodLink RL 117 yX10_run), (932, .methodLink RL 118 yX9_count), (1377, .methodLink RL 121 yX10_count), (936, .methodLink RL 122 yX9_sheet), (1381, .methodLink RL 125 yX10_sheet), (947, .methodLink RL 126 yX9_drop), (1389, .methodLink RL 129 yX10_drop), (959, .methodLink RL 130 yX9_item), (1393, .methodLink RL 133 yX10_item), (967, .methodLink RL 134 yX9_put), (1405, .methodLink RL 138 yX10_put), (1409, .constantLong RL 13 (4294967295))]
theorem oWl : okW eWl = true := by decide +kernel
theorem lL_law_9 : lkB mL_law mX9_init 9 := ⟨gm oWl 0 rfl, by decide⟩
theorem lL_law_12 : lkB mL_law mX10_init 12 := ⟨gm oWl 1 rfl, by decide⟩
theorem lL_law_15 : lkB mL_law mX9_type 15 := ⟨gm oWl 2 rfl, by decide⟩
theorem lL_law_19 : lkB mL_law mX10_type 19 := ⟨gm oWl 3 rfl, by decide⟩
theorem lL_law_20 : lkB mL_law mX9_thing 20 := ⟨gm oWl 4 rfl, by decide⟩
theorem lL_law_24 : lkB mL_law mX10_thing 24 := ⟨gm oWl 5 rfl, by decide⟩
theorem lL_law_25 : lkB mL_law mX9_line 25 := ⟨gm oWl 6 rfl, by decide⟩
theorem lL_law_29 : lkB mL_law mX10_line 29 := ⟨gm oWl 7 rfl, by decide⟩
theorem lL_law_30 : lkB mL_law mX9_byteAt 30 := ⟨gm oWl 8 rfl, by decide⟩
theorem lL_law_34 : lkB mL_law mX10_byteAt 34 := ⟨gm oWl 9 rfl, by decide⟩
theorem lL_law_35 : lkB mL_law mX9_place 35 := ⟨gm oWl 10 rfl, by decide⟩
theorem lL_law_38 : lkB mL_law mX10_place 38 := ⟨gm oWl 11 rfl, by decide⟩
theorem lL_law_39 : lkB mL_law mX9_made 39 := ⟨gm oWl 12 rfl, by decide⟩
theorem lL_law_43 : lkB mL_law mX10_made 43 := ⟨gm oWl 13 rfl, by decide⟩
theorem lL_law_44 : lkB mL_law mX9_show 44 := ⟨gm oWl 14 rfl, by decide⟩
theorem lL_law_48 : lkB mL_law mX10_show 48 := ⟨gm oWl 15 rfl, by decide⟩
theorem lL_law_49 : lkB mL_law mX9_forget 49 := ⟨gm oWl 16 rfl, by decide⟩
theorem lL_law_52 : lkB mL_law mX10_forget 52 := ⟨gm oWl 17 rfl, by decide⟩
theorem lL_law_53 : lkB mL_law mX9_fitting 53 := ⟨gm oWl 18 rfl, by decide⟩
theorem lL_law_57 : lkB mL_law mX10_fitting 57 := ⟨gm oWl 19 rfl, by decide⟩
theorem lL_law_58 : lkB mL_law mX9_shortest 58 := ⟨gm oWl 20 rfl, by decide⟩
theorem lL_law_61 : lkB mL_law mX10_shortest 61 := ⟨gm oWl 21 rfl, by decide⟩
theorem lL_law_62 : lkB mL_law mX9_paper 62 := ⟨gm oWl 22 rfl, by decide⟩
theorem lL_law_65 : lkB mL_law mX10_paper 65 := ⟨gm oWl 23 rfl, by decide⟩
theorem lL_law_66 : lkB mL_law mX9_differs 66 := ⟨gm oWl 24 rfl, by decide⟩
theorem lL_law_69 : lkB mL_law mX10_differs 69 := ⟨gm oWl 25 rfl, by decide⟩
theorem lL_law_70 : lkB mL_law mX9_settle 70 := ⟨gm oWl 26 rfl, by decide⟩
theorem lL_law_73 : lkB mL_law mX10_settle 73 := ⟨gm oWl 27 rfl, by decide⟩
theorem lL_law_74 : lkB mL_law mX9_odd 74 := ⟨gm oWl 28 rfl, by decide⟩
theorem lL_law_77 : lkB mL_law mX10_odd 77 := ⟨gm oWl 29 rfl, by decide⟩
theorem lL_law_78 : lkB mL_law mX9_slips 78 := ⟨gm oWl 30 rfl, by decide⟩
theorem lL_law_81 : lkB mL_law mX10_slips 81 := ⟨gm oWl 31 rfl, by decide⟩
theorem lL_law_82 : lkB mL_law mX9_state 82 := ⟨gm oWl 32 rfl, by decide⟩
theorem lL_law_85 : lkB mL_law mX10_state 85 := ⟨gm oWl 33 rfl, by decide⟩
theorem lL_law_86 : lkB mL_law mX9_doing 86 := ⟨gm oWl 34 rfl, by decide⟩
theorem lL_law_89 : lkB mL_law mX10_doing 89 := ⟨gm oWl 35 rfl, by decide⟩
theorem lL_law_90 : lkB mL_law mX9_back 90 := ⟨gm oWl 36 rfl, by decide⟩
theorem lL_law_93 : lkB mL_law mX10_back 93 := ⟨gm oWl 37 rfl, by decide⟩
theorem lL_law_94 : lkB mL_law mX9_end 94 := ⟨gm oWl 38 rfl, by decide⟩
theorem lL_law_97 : lkB mL_law mX10_end 97 := ⟨gm oWl 39 rfl, by decide⟩
theorem lL_law_98 : lkB mL_law mX9_otherwise 98 := ⟨gm oWl 40 rfl, by decide⟩
theorem lL_law_101 : lkB mL_law mX10_otherwise 101 := ⟨gm oWl 41 rfl, by decide⟩
theorem lL_law_102 : lkB mL_law mX9_keep 102 := ⟨gm oWl 42 rfl, by decide⟩
theorem lL_law_105 : lkB mL_law mX10_keep 105 := ⟨gm oWl 43 rfl, by decide⟩
theorem lL_law_106 : lkB mL_law mX9_text 106 := ⟨gm oWl 44 rfl, by decide⟩
theorem lL_law_109 : lkB mL_law mX10_text 109 := ⟨gm oWl 45 rfl, by decide⟩
theorem lL_law_110 : lkB mL_law mX9_kept 110 := ⟨gm oWl 46 rfl, by decide⟩
theorem lL_law_113 : lkB mL_law mX10_kept 113 := ⟨gm oWl 47 rfl, by decide⟩
theorem lL_law_114 : lkB mL_law mX9_run 114 := ⟨gm oWl 48 rfl, by decide⟩
theorem lL_law_117 : lkB mL_law mX10_run 117 := ⟨gm oWl 49 rfl, by decide⟩
theorem lL_law_118 : lkB mL_law mX9_count 118 := ⟨gm oWl 50 rfl, by decide⟩
theorem lL_law_121 : lkB mL_law mX10_count 121 := ⟨gm oWl 51 rfl, by decide⟩
theorem lL_law_122 : lkB mL_law mX9_sheet 122 := ⟨gm oWl 52 rfl, by decide⟩
theorem lL_law_125 : lkB mL_law mX10_sheet 125 := ⟨gm oWl 53 rfl, by decide⟩
theorem lL_law_126 : lkB mL_law mX9_drop 126 := ⟨gm oWl 54 rfl, by decide⟩
theorem lL_law_129 : lkB mL_law mX10_drop 129 := ⟨gm oWl 55 rfl, by decide⟩
theorem lL_law_130 : lkB mL_law mX9_item 130 := ⟨gm oWl 56 rfl, by decide⟩
theorem lL_law_133 : lkB mL_law mX10_item 133 := ⟨gm oWl 57 rfl, by decide⟩
theorem lL_law_134 : lkB mL_law mX9_put 134 := ⟨gm oWl 58 rfl, by decide⟩
theorem lL_law_138 : lkB mL_law mX10_put 138 := ⟨gm oWl 59 rfl, by decide⟩
theorem kL_13 : Cond.constantLong RL 13 (4294967295) ∈ gTs := gm oWl 60 rfl
/-- the memory in the law: more room is left -/
def mkL (S : ST) : HM := (mkC S, 413, gSLn, 600000, 7302250)
abbrev gJL (sc : SC) (y : MI) (pc : Nat) (L : List (Option AV)) (st : List AV) (Q : Option AV → HM → Prop) : Option AV → HM → Prop := fun r M' => ∃ S' : ST, M' = mk S' ∧ G sc y (pc + 3) L (r.toList ++ st) (mkL S') Q
theorem L_callV {y z : MI} {pc : Nat} {L : List (Option AV)} {st : List AV} {i a ci n : Nat} {av : List AV} (hd : decode y.2.1 pc = .ok (.invokevirtual i, 3)) (hz : mV z av.length) (hlk : lkB y z i) (hcat : Nat.ble (gCat st) 8 = true) (hk : kd a = (ci, n)) (hc : Nat.blt ci 10 = true) (hci : (vwCl[ci]?).map (fun q => q.1) = some z.1.cls) (hM : CT sc z (aR a :: av) (mk S) (gJL sc y pc L st Q)) : G sc y pc L (av.reverse ++ aR a :: st) (mkL S) Q :=
  G_callV (M := mkL S) (n' := 413) (s' := gSLn) hd hz hlk (Nat.le_of_ble_eq_true hcat) (kd_lt hk (Nat.ble_eq_true_of_le (Nat.le_trans (Nat.le_of_ble_eq_true hc) (by decide)))) (mkC_obj hk hc) hci ⟨Nat.le_refl _, by show 413 ≤ 600000; omega⟩ ⟨Nat.le_refl _, by show gSLn ≤ 7302250; decide⟩ (CT_mono hM (fun r M' h => by obtain ⟨S', rfl, h2⟩ := h; exact ⟨rfl, rfl, h2⟩))
theorem L_zret {y : MI} {pc : Nat} {L : List (Option AV)} {x : Int32} (hd : decode y.2.1 pc = .ok (.ireturn, 1)) (hr : y.2.2.2.1 = some .boolean) (hn : narrow .boolean (.int x) = .int x) (hq : Q (some (aI x)) (mkL S)) : G sc y pc L [aI x] (mkL S) Q := G_zret hd hr hn (by show 413 ≤ 600000; omega) (by show gSLn ≤ 7302250; decide) hq
theorem lcmp_self (x : Int64) : lg_cmp x x = 0 := by simp [lg_cmp]

set_option maxRecDepth 100000 in
set_option maxHeartbeats 4000000 in
theorem law_type {i : Nat} (h : IV S n) (hN : sc.1 ≤ 3072) (hi : i + 6 ≤ sc.1) (k : ∀ S2, IV S2 (n + 1) → G sc mL_law 1012 [some (aE 1), some (aR 0), some (aR 389), some (aI (nI i))] [] (mkL S2) Q) : G sc mL_law 164 [some (aE 1), some (aR 0), some (aR 389), some (aI (nI i))] [] (mkL S) Q := by
  refine G_aload_n (pc := 164) dL_law_164 rfl rfl ?_
  refine G_eload_n (pc := 165) dL_law_165 rfl rfl ?_
  refine G_iload_n (pc := 166) dL_law_166 rfl rfl ?_
  refine G_iconst (pc := 167) (v := nI 1) dL_law_167 (by decide) ?_
  refine N_iadd (pc := 168) dL_law_168 ?_
  refine G_sld (pc := 169) dL_law_169 (vp_in_nI (by omega) (by omega)) ?_
  refine G_i2l (pc := 170) dL_law_170 ?_
  refine G_bipush (pc := 171) (v := nI 32) dL_law_171 (by decide) ?_
  refine G_lshl (pc := 173) dL_law_173 ?_
  refine G_eload_n (pc := 174) dL_law_174 rfl rfl ?_
  refine G_iload_n (pc := 175) dL_law_175 rfl rfl ?_
  refine G_iconst (pc := 176) (v := nI 2) dL_law_176 (by decide) ?_
  refine N_iadd (pc := 177) dL_law_177 ?_
  refine G_sld (pc := 178) dL_law_178 (vp_in_nI (by omega) (by omega)) ?_
  refine G_i2l (pc := 179) dL_law_179 ?_
  refine G_ldc2 (pc := 180) dL_law_180 kL_13 ?_
  refine G_land (pc := 183) dL_law_183 ?_
  refine G_lor (pc := 184) dL_law_184 ?_
  refine G_eload_n (pc := 185) dL_law_185 rfl rfl ?_
  refine G_iload_n (pc := 186) dL_law_186 rfl rfl ?_
  refine G_iconst (pc := 187) (v := nI 3) dL_law_187 (by decide) ?_
  refine N_iadd (pc := 188) dL_law_188 ?_
  refine G_sld (pc := 189) dL_law_189 (vp_in_nI (by omega) (by omega)) ?_
  refine L_callV (av := [_, _]) (pc := 190) (z := mX9_type) (ci := 8) dL_law_190 zX9_type lL_law_15 rfl (by first | rfl | assumption) rfl rfl (PA_type h _ (fun x S1 kk => ⟨_, rfl, ?_⟩))
  refine G_aload_n (pc := 193) dL_law_193 rfl rfl ?_
  refine G_eload_n (pc := 194) dL_law_194 rfl rfl ?_
  refine G_iload_n (pc := 195) dL_law_195 rfl rfl ?_
  refine G_iconst (pc := 196) (v := nI 1) dL_law_196 (by decide) ?_
  refine N_iadd (pc := 197) dL_law_197 ?_
  refine G_sld (pc := 198) dL_law_198 (vp_in_nI (by omega) (by omega)) ?_
  refine G_i2l (pc := 199) dL_law_199 ?_
  refine G_bipush (pc := 200) (v := nI 32) dL_law_200 (by decide) ?_
  refine G_lshl (pc := 202) dL_law_202 ?_
  refine G_eload_n (pc := 203) dL_law_203 rfl rfl ?_
  refine G_iload_n (pc := 204) dL_law_204 rfl rfl ?_
  refine G_iconst (pc := 205) (v := nI 2) dL_law_205 (by decide) ?_
  refine N_iadd (pc := 206) dL_law_206 ?_
  refine G_sld (pc := 207) dL_law_207 (vp_in_nI (by omega) (by omega)) ?_
  refine G_i2l (pc := 208) dL_law_208 ?_
  refine G_ldc2 (pc := 209) dL_law_209 kL_13 ?_
  refine G_land (pc := 212) dL_law_212 ?_
  refine G_lor (pc := 213) dL_law_213 ?_
  refine G_eload_n (pc := 214) dL_law_214 rfl rfl ?_
  refine G_iload_n (pc := 215) dL_law_215 rfl rfl ?_
  refine G_iconst (pc := 216) (v := nI 3) dL_law_216 (by decide) ?_
  refine N_iadd (pc := 217) dL_law_217 ?_
  refine G_sld (pc := 218) dL_law_218 (vp_in_nI (by omega) (by omega)) ?_
  refine L_callV (av := [_, _]) (pc := 219) (z := mX10_type) (ci := 9) dL_law_219 zX10_type lL_law_19 rfl (by first | rfl | assumption) rfl rfl (kk _ (fun S2 hI => ⟨_, rfl, ?_⟩))
  refine T_icmp_eq (pc := 222) (tgt := 1012) dL_law_222 (by decide) (fun c222 => ?_) (fun c222 => absurd c222 ((fun z => z rfl)))
  exact k S2 hI
set_option maxRecDepth 100000 in
set_option maxHeartbeats 4000000 in
theorem law_thing {i : Nat} (h : IV S n) (hN : sc.1 ≤ 3072) (hi : i + 6 ≤ sc.1) (k : ∀ S2, IV S2 (n + 1) → G sc mL_law 1012 [some (aE 1), some (aR 0), some (aR 389), some (aI (nI i))] [] (mkL S2) Q) : G sc mL_law 227 [some (aE 1), some (aR 0), some (aR 389), some (aI (nI i))] [] (mkL S) Q := by
  refine G_aload_n (pc := 227) dL_law_227 rfl rfl ?_
  refine L_callV (av := []) (pc := 228) (z := mX9_thing) (ci := 8) dL_law_228 zX9_thing lL_law_20 rfl (by first | rfl | assumption) rfl rfl (PA_thing h _ (fun x S1 kk => ⟨_, rfl, ?_⟩))
  refine G_aload_n (pc := 231) dL_law_231 rfl rfl ?_
  refine L_callV (av := []) (pc := 232) (z := mX10_thing) (ci := 9) dL_law_232 zX10_thing lL_law_24 rfl (by first | rfl | assumption) rfl rfl (kk _ (fun S2 hI => ⟨_, rfl, ?_⟩))
  refine T_icmp_eq (pc := 235) (tgt := 1012) dL_law_235 (by decide) (fun c235 => ?_) (fun c235 => absurd c235 ((fun z => z rfl)))
  exact k S2 hI
set_option maxRecDepth 100000 in
set_option maxHeartbeats 4000000 in
theorem law_line {i : Nat} (h : IV S n) (hN : sc.1 ≤ 3072) (hi : i + 6 ≤ sc.1) (k : ∀ S2, IV S2 (n + 1) → G sc mL_law 1012 [some (aE 1), some (aR 0), some (aR 389), some (aI (nI i))] [] (mkL S2) Q) : G sc mL_law 240 [some (aE 1), some (aR 0), some (aR 389), some (aI (nI i))] [] (mkL S) Q := by
  refine G_aload_n (pc := 240) dL_law_240 rfl rfl ?_
  refine G_eload_n (pc := 241) dL_law_241 rfl rfl ?_
  refine G_iload_n (pc := 242) dL_law_242 rfl rfl ?_
  refine G_iconst (pc := 243) (v := nI 1) dL_law_243 (by decide) ?_
  refine N_iadd (pc := 244) dL_law_244 ?_
  refine G_sld (pc := 245) dL_law_245 (vp_in_nI (by omega) (by omega)) ?_
  refine G_eload_n (pc := 246) dL_law_246 rfl rfl ?_
  refine G_iload_n (pc := 247) dL_law_247 rfl rfl ?_
  refine G_iconst (pc := 248) (v := nI 2) dL_law_248 (by decide) ?_
  refine N_iadd (pc := 249) dL_law_249 ?_
  refine G_sld (pc := 250) dL_law_250 (vp_in_nI (by omega) (by omega)) ?_
  refine G_eload_n (pc := 251) dL_law_251 rfl rfl ?_
  refine G_iload_n (pc := 252) dL_law_252 rfl rfl ?_
  refine G_iconst (pc := 253) (v := nI 3) dL_law_253 (by decide) ?_
  refine N_iadd (pc := 254) dL_law_254 ?_
  refine G_sld (pc := 255) dL_law_255 (vp_in_nI (by omega) (by omega)) ?_
  refine G_eload_n (pc := 256) dL_law_256 rfl rfl ?_
  refine G_iload_n (pc := 257) dL_law_257 rfl rfl ?_
  refine G_iconst (pc := 258) (v := nI 4) dL_law_258 (by decide) ?_
  refine N_iadd (pc := 259) dL_law_259 ?_
  refine G_sld (pc := 260) dL_law_260 (vp_in_nI (by omega) (by omega)) ?_
  refine L_callV (av := [_, _, _, _]) (pc := 261) (z := mX9_line) (ci := 8) dL_law_261 zX9_line lL_law_25 rfl (by first | rfl | assumption) rfl rfl (PA_line h _ (fun x S1 kk => ⟨_, rfl, ?_⟩))
  refine G_aload_n (pc := 264) dL_law_264 rfl rfl ?_
  refine G_eload_n (pc := 265) dL_law_265 rfl rfl ?_
  refine G_iload_n (pc := 266) dL_law_266 rfl rfl ?_
  refine G_iconst (pc := 267) (v := nI 1) dL_law_267 (by decide) ?_
  refine N_iadd (pc := 268) dL_law_268 ?_
  refine G_sld (pc := 269) dL_law_269 (vp_in_nI (by omega) (by omega)) ?_
  refine G_eload_n (pc := 270) dL_law_270 rfl rfl ?_
  refine G_iload_n (pc := 271) dL_law_271 rfl rfl ?_
  refine G_iconst (pc := 272) (v := nI 2) dL_law_272 (by decide) ?_
  refine N_iadd (pc := 273) dL_law_273 ?_
  refine G_sld (pc := 274) dL_law_274 (vp_in_nI (by omega) (by omega)) ?_
  refine G_eload_n (pc := 275) dL_law_275 rfl rfl ?_
  refine G_iload_n (pc := 276) dL_law_276 rfl rfl ?_
  refine G_iconst (pc := 277) (v := nI 3) dL_law_277 (by decide) ?_
  refine N_iadd (pc := 278) dL_law_278 ?_
  refine G_sld (pc := 279) dL_law_279 (vp_in_nI (by omega) (by omega)) ?_
  refine G_eload_n (pc := 280) dL_law_280 rfl rfl ?_
  refine G_iload_n (pc := 281) dL_law_281 rfl rfl ?_
  refine G_iconst (pc := 282) (v := nI 4) dL_law_282 (by decide) ?_
  refine N_iadd (pc := 283) dL_law_283 ?_
  refine G_sld (pc := 284) dL_law_284 (vp_in_nI (by omega) (by omega)) ?_
  refine L_callV (av := [_, _, _, _]) (pc := 285) (z := mX10_line) (ci := 9) dL_law_285 zX10_line lL_law_29 rfl (by first | rfl | assumption) rfl rfl (kk _ (fun S2 hI => ⟨_, rfl, ?_⟩))
  refine T_icmp_eq (pc := 288) (tgt := 1012) dL_law_288 (by decide) (fun c288 => ?_) (fun c288 => absurd c288 ((fun z => z rfl)))
  exact k S2 hI
set_option maxRecDepth 100000 in
set_option maxHeartbeats 4000000 in
theorem law_byteAt {i : Nat} (h : IV S n) (hN : sc.1 ≤ 3072) (hi : i + 6 ≤ sc.1) (k : ∀ S2, IV S2 (n + 1) → G sc mL_law 1012 [some (aE 1), some (aR 0), some (aR 389), some (aI (nI i))] [] (mkL S2) Q) : G sc mL_law 293 [some (aE 1), some (aR 0), some (aR 389), some (aI (nI i))] [] (mkL S) Q := by
  refine G_aload_n (pc := 293) dL_law_293 rfl rfl ?_
  refine G_eload_n (pc := 294) dL_law_294 rfl rfl ?_
  refine G_iload_n (pc := 295) dL_law_295 rfl rfl ?_
  refine G_iconst (pc := 296) (v := nI 1) dL_law_296 (by decide) ?_
  refine N_iadd (pc := 297) dL_law_297 ?_
  refine G_sld (pc := 298) dL_law_298 (vp_in_nI (by omega) (by omega)) ?_
  refine G_eload_n (pc := 299) dL_law_299 rfl rfl ?_
  refine G_iload_n (pc := 300) dL_law_300 rfl rfl ?_
  refine G_iconst (pc := 301) (v := nI 2) dL_law_301 (by decide) ?_
  refine N_iadd (pc := 302) dL_law_302 ?_
  refine G_sld (pc := 303) dL_law_303 (vp_in_nI (by omega) (by omega)) ?_
  refine L_callV (av := [_, _]) (pc := 304) (z := mX9_byteAt) (ci := 8) dL_law_304 zX9_byteAt lL_law_30 rfl (by first | rfl | assumption) rfl rfl (PA_byteAt h _ (fun x S1 kk => ⟨_, rfl, ?_⟩))
  refine G_aload_n (pc := 307) dL_law_307 rfl rfl ?_
  refine G_eload_n (pc := 308) dL_law_308 rfl rfl ?_
  refine G_iload_n (pc := 309) dL_law_309 rfl rfl ?_
  refine G_iconst (pc := 310) (v := nI 1) dL_law_310 (by decide) ?_
  refine N_iadd (pc := 311) dL_law_311 ?_
  refine G_sld (pc := 312) dL_law_312 (vp_in_nI (by omega) (by omega)) ?_
  refine G_eload_n (pc := 313) dL_law_313 rfl rfl ?_
  refine G_iload_n (pc := 314) dL_law_314 rfl rfl ?_
  refine G_iconst (pc := 315) (v := nI 2) dL_law_315 (by decide) ?_
  refine N_iadd (pc := 316) dL_law_316 ?_
  refine G_sld (pc := 317) dL_law_317 (vp_in_nI (by omega) (by omega)) ?_
  refine L_callV (av := [_, _]) (pc := 318) (z := mX10_byteAt) (ci := 9) dL_law_318 zX10_byteAt lL_law_34 rfl (by first | rfl | assumption) rfl rfl (kk _ (fun S2 hI => ⟨_, rfl, ?_⟩))
  refine T_icmp_eq (pc := 321) (tgt := 1012) dL_law_321 (by decide) (fun c321 => ?_) (fun c321 => absurd c321 ((fun z => z rfl)))
  exact k S2 hI
set_option maxRecDepth 100000 in
set_option maxHeartbeats 4000000 in
theorem law_place {i : Nat} (h : IV S n) (hN : sc.1 ≤ 3072) (hi : i + 6 ≤ sc.1) (k : ∀ S2, IV S2 (n + 1) → G sc mL_law 1012 [some (aE 1), some (aR 0), some (aR 389), some (aI (nI i))] [] (mkL S2) Q) : G sc mL_law 326 [some (aE 1), some (aR 0), some (aR 389), some (aI (nI i))] [] (mkL S) Q := by
  refine G_aload_n (pc := 326) dL_law_326 rfl rfl ?_
  refine G_eload_n (pc := 327) dL_law_327 rfl rfl ?_
  refine G_iload_n (pc := 328) dL_law_328 rfl rfl ?_
  refine G_iconst (pc := 329) (v := nI 1) dL_law_329 (by decide) ?_
  refine N_iadd (pc := 330) dL_law_330 ?_
  refine G_sld (pc := 331) dL_law_331 (vp_in_nI (by omega) (by omega)) ?_
  refine G_eload_n (pc := 332) dL_law_332 rfl rfl ?_
  refine G_iload_n (pc := 333) dL_law_333 rfl rfl ?_
  refine G_iconst (pc := 334) (v := nI 2) dL_law_334 (by decide) ?_
  refine N_iadd (pc := 335) dL_law_335 ?_
  refine G_sld (pc := 336) dL_law_336 (vp_in_nI (by omega) (by omega)) ?_
  refine L_callV (av := [_, _]) (pc := 337) (z := mX9_place) (ci := 8) dL_law_337 zX9_place lL_law_35 rfl (by first | rfl | assumption) rfl rfl (PA_place h _ (fun x S1 kk => ⟨_, rfl, ?_⟩))
  refine G_aload_n (pc := 340) dL_law_340 rfl rfl ?_
  refine G_eload_n (pc := 341) dL_law_341 rfl rfl ?_
  refine G_iload_n (pc := 342) dL_law_342 rfl rfl ?_
  refine G_iconst (pc := 343) (v := nI 1) dL_law_343 (by decide) ?_
  refine N_iadd (pc := 344) dL_law_344 ?_
  refine G_sld (pc := 345) dL_law_345 (vp_in_nI (by omega) (by omega)) ?_
  refine G_eload_n (pc := 346) dL_law_346 rfl rfl ?_
  refine G_iload_n (pc := 347) dL_law_347 rfl rfl ?_
  refine G_iconst (pc := 348) (v := nI 2) dL_law_348 (by decide) ?_
  refine N_iadd (pc := 349) dL_law_349 ?_
  refine G_sld (pc := 350) dL_law_350 (vp_in_nI (by omega) (by omega)) ?_
  refine L_callV (av := [_, _]) (pc := 351) (z := mX10_place) (ci := 9) dL_law_351 zX10_place lL_law_38 rfl (by first | rfl | assumption) rfl rfl (kk _ (fun S2 hI => ⟨_, rfl, ?_⟩))
  refine T_icmp_eq (pc := 354) (tgt := 1012) dL_law_354 (by decide) (fun c354 => ?_) (fun c354 => absurd c354 ((fun z => z rfl)))
  exact k S2 hI
set_option maxRecDepth 100000 in
set_option maxHeartbeats 4000000 in
theorem law_made {i : Nat} (h : IV S n) (hN : sc.1 ≤ 3072) (hi : i + 6 ≤ sc.1) (k : ∀ S2, IV S2 (n + 1) → G sc mL_law 1012 [some (aE 1), some (aR 0), some (aR 389), some (aI (nI i))] [] (mkL S2) Q) : G sc mL_law 359 [some (aE 1), some (aR 0), some (aR 389), some (aI (nI i))] [] (mkL S) Q := by
  refine G_aload_n (pc := 359) dL_law_359 rfl rfl ?_
  refine G_eload_n (pc := 360) dL_law_360 rfl rfl ?_
  refine G_iload_n (pc := 361) dL_law_361 rfl rfl ?_
  refine G_iconst (pc := 362) (v := nI 1) dL_law_362 (by decide) ?_
  refine N_iadd (pc := 363) dL_law_363 ?_
  refine G_sld (pc := 364) dL_law_364 (vp_in_nI (by omega) (by omega)) ?_
  refine G_eload_n (pc := 365) dL_law_365 rfl rfl ?_
  refine G_iload_n (pc := 366) dL_law_366 rfl rfl ?_
  refine G_iconst (pc := 367) (v := nI 2) dL_law_367 (by decide) ?_
  refine N_iadd (pc := 368) dL_law_368 ?_
  refine G_sld (pc := 369) dL_law_369 (vp_in_nI (by omega) (by omega)) ?_
  refine G_eload_n (pc := 370) dL_law_370 rfl rfl ?_
  refine G_iload_n (pc := 371) dL_law_371 rfl rfl ?_
  refine G_iconst (pc := 372) (v := nI 3) dL_law_372 (by decide) ?_
  refine N_iadd (pc := 373) dL_law_373 ?_
  refine G_sld (pc := 374) dL_law_374 (vp_in_nI (by omega) (by omega)) ?_
  refine L_callV (av := [_, _, _]) (pc := 375) (z := mX9_made) (ci := 8) dL_law_375 zX9_made lL_law_39 rfl (by first | rfl | assumption) rfl rfl (PA_made h _ (fun x S1 kk => ⟨_, rfl, ?_⟩))
  refine G_aload_n (pc := 378) dL_law_378 rfl rfl ?_
  refine G_eload_n (pc := 379) dL_law_379 rfl rfl ?_
  refine G_iload_n (pc := 380) dL_law_380 rfl rfl ?_
  refine G_iconst (pc := 381) (v := nI 1) dL_law_381 (by decide) ?_
  refine N_iadd (pc := 382) dL_law_382 ?_
  refine G_sld (pc := 383) dL_law_383 (vp_in_nI (by omega) (by omega)) ?_
  refine G_eload_n (pc := 384) dL_law_384 rfl rfl ?_
  refine G_iload_n (pc := 385) dL_law_385 rfl rfl ?_
  refine G_iconst (pc := 386) (v := nI 2) dL_law_386 (by decide) ?_
  refine N_iadd (pc := 387) dL_law_387 ?_
  refine G_sld (pc := 388) dL_law_388 (vp_in_nI (by omega) (by omega)) ?_
  refine G_eload_n (pc := 389) dL_law_389 rfl rfl ?_
  refine G_iload_n (pc := 390) dL_law_390 rfl rfl ?_
  refine G_iconst (pc := 391) (v := nI 3) dL_law_391 (by decide) ?_
  refine N_iadd (pc := 392) dL_law_392 ?_
  refine G_sld (pc := 393) dL_law_393 (vp_in_nI (by omega) (by omega)) ?_
  refine L_callV (av := [_, _, _]) (pc := 394) (z := mX10_made) (ci := 9) dL_law_394 zX10_made lL_law_43 rfl (by first | rfl | assumption) rfl rfl (kk _ (fun S2 hI => ⟨_, rfl, ?_⟩))
  refine T_icmp_eq (pc := 397) (tgt := 1012) dL_law_397 (by decide) (fun c397 => ?_) (fun c397 => absurd c397 ((fun z => z rfl)))
  exact k S2 hI
set_option maxRecDepth 100000 in
set_option maxHeartbeats 4000000 in
theorem law_show {i : Nat} (h : IV S n) (hN : sc.1 ≤ 3072) (hi : i + 6 ≤ sc.1) (k : ∀ S2, IV S2 (n + 1) → G sc mL_law 1012 [some (aE 1), some (aR 0), some (aR 389), some (aI (nI i))] [] (mkL S2) Q) : G sc mL_law 402 [some (aE 1), some (aR 0), some (aR 389), some (aI (nI i))] [] (mkL S) Q := by
  refine G_aload_n (pc := 402) dL_law_402 rfl rfl ?_
  refine G_eload_n (pc := 403) dL_law_403 rfl rfl ?_
  refine G_iload_n (pc := 404) dL_law_404 rfl rfl ?_
  refine G_iconst (pc := 405) (v := nI 1) dL_law_405 (by decide) ?_
  refine N_iadd (pc := 406) dL_law_406 ?_
  refine G_sld (pc := 407) dL_law_407 (vp_in_nI (by omega) (by omega)) ?_
  refine L_callV (av := [_]) (pc := 408) (z := mX9_show) (ci := 8) dL_law_408 zX9_show lL_law_44 rfl (by first | rfl | assumption) rfl rfl (PA_show h _ (fun x S1 kk => ⟨_, rfl, ?_⟩))
  refine G_aload_n (pc := 411) dL_law_411 rfl rfl ?_
  refine G_eload_n (pc := 412) dL_law_412 rfl rfl ?_
  refine G_iload_n (pc := 413) dL_law_413 rfl rfl ?_
  refine G_iconst (pc := 414) (v := nI 1) dL_law_414 (by decide) ?_
  refine N_iadd (pc := 415) dL_law_415 ?_
  refine G_sld (pc := 416) dL_law_416 (vp_in_nI (by omega) (by omega)) ?_
  refine L_callV (av := [_]) (pc := 417) (z := mX10_show) (ci := 9) dL_law_417 zX10_show lL_law_48 rfl (by first | rfl | assumption) rfl rfl (kk _ (fun S2 hI => ⟨_, rfl, ?_⟩))
  refine T_icmp_eq (pc := 420) (tgt := 1012) dL_law_420 (by decide) (fun c420 => ?_) (fun c420 => absurd c420 ((fun z => z rfl)))
  exact k S2 hI
set_option maxRecDepth 100000 in
set_option maxHeartbeats 4000000 in
theorem law_forget {i : Nat} (h : IV S n) (hN : sc.1 ≤ 3072) (hi : i + 6 ≤ sc.1) (k : ∀ S2, IV S2 (n + 1) → G sc mL_law 1012 [some (aE 1), some (aR 0), some (aR 389), some (aI (nI i))] [] (mkL S2) Q) : G sc mL_law 425 [some (aE 1), some (aR 0), some (aR 389), some (aI (nI i))] [] (mkL S) Q := by
  refine G_aload_n (pc := 425) dL_law_425 rfl rfl ?_
  refine G_eload_n (pc := 426) dL_law_426 rfl rfl ?_
  refine G_iload_n (pc := 427) dL_law_427 rfl rfl ?_
  refine G_iconst (pc := 428) (v := nI 1) dL_law_428 (by decide) ?_
  refine N_iadd (pc := 429) dL_law_429 ?_
  refine G_sld (pc := 430) dL_law_430 (vp_in_nI (by omega) (by omega)) ?_
  refine L_callV (av := [_]) (pc := 431) (z := mX9_forget) (ci := 8) dL_law_431 zX9_forget lL_law_49 rfl (by first | rfl | assumption) rfl rfl (PA_forget h _ (fun x S1 kk => ⟨_, rfl, ?_⟩))
  refine G_aload_n (pc := 434) dL_law_434 rfl rfl ?_
  refine G_eload_n (pc := 435) dL_law_435 rfl rfl ?_
  refine G_iload_n (pc := 436) dL_law_436 rfl rfl ?_
  refine G_iconst (pc := 437) (v := nI 1) dL_law_437 (by decide) ?_
  refine N_iadd (pc := 438) dL_law_438 ?_
  refine G_sld (pc := 439) dL_law_439 (vp_in_nI (by omega) (by omega)) ?_
  refine L_callV (av := [_]) (pc := 440) (z := mX10_forget) (ci := 9) dL_law_440 zX10_forget lL_law_52 rfl (by first | rfl | assumption) rfl rfl (kk _ (fun S2 hI => ⟨_, rfl, ?_⟩))
  refine T_icmp_eq (pc := 443) (tgt := 1012) dL_law_443 (by decide) (fun c443 => ?_) (fun c443 => absurd c443 ((fun z => z rfl)))
  exact k S2 hI
set_option maxRecDepth 100000 in
set_option maxHeartbeats 4000000 in
theorem law_fitting {i : Nat} (h : IV S n) (hN : sc.1 ≤ 3072) (hi : i + 6 ≤ sc.1) (k : ∀ S2, IV S2 (n + 1) → G sc mL_law 1012 [some (aE 1), some (aR 0), some (aR 389), some (aI (nI i))] [] (mkL S2) Q) : G sc mL_law 448 [some (aE 1), some (aR 0), some (aR 389), some (aI (nI i))] [] (mkL S) Q := by
  refine G_aload_n (pc := 448) dL_law_448 rfl rfl ?_
  refine G_eload_n (pc := 449) dL_law_449 rfl rfl ?_
  refine G_iload_n (pc := 450) dL_law_450 rfl rfl ?_
  refine G_iconst (pc := 451) (v := nI 1) dL_law_451 (by decide) ?_
  refine N_iadd (pc := 452) dL_law_452 ?_
  refine G_sld (pc := 453) dL_law_453 (vp_in_nI (by omega) (by omega)) ?_
  refine L_callV (av := [_]) (pc := 454) (z := mX9_fitting) (ci := 8) dL_law_454 zX9_fitting lL_law_53 rfl (by first | rfl | assumption) rfl rfl (PA_fitting h _ (fun x S1 kk => ⟨_, rfl, ?_⟩))
  refine G_aload_n (pc := 457) dL_law_457 rfl rfl ?_
  refine G_eload_n (pc := 458) dL_law_458 rfl rfl ?_
  refine G_iload_n (pc := 459) dL_law_459 rfl rfl ?_
  refine G_iconst (pc := 460) (v := nI 1) dL_law_460 (by decide) ?_
  refine N_iadd (pc := 461) dL_law_461 ?_
  refine G_sld (pc := 462) dL_law_462 (vp_in_nI (by omega) (by omega)) ?_
  refine L_callV (av := [_]) (pc := 463) (z := mX10_fitting) (ci := 9) dL_law_463 zX10_fitting lL_law_57 rfl (by first | rfl | assumption) rfl rfl (kk _ (fun S2 hI => ⟨_, rfl, ?_⟩))
  refine G_lcmp (pc := 466) dL_law_466 ?_
  rw [lcmp_self]
  refine T_if_eq (pc := 467) (tgt := 1012) dL_law_467 (by decide) (fun c467 => ?_) (fun c467 => absurd c467 (by decide))
  exact k S2 hI
set_option maxRecDepth 100000 in
set_option maxHeartbeats 4000000 in
theorem law_shortest {i : Nat} (h : IV S n) (hN : sc.1 ≤ 3072) (hi : i + 6 ≤ sc.1) (k : ∀ S2, IV S2 (n + 1) → G sc mL_law 1012 [some (aE 1), some (aR 0), some (aR 389), some (aI (nI i))] [] (mkL S2) Q) : G sc mL_law 472 [some (aE 1), some (aR 0), some (aR 389), some (aI (nI i))] [] (mkL S) Q := by
  refine G_aload_n (pc := 472) dL_law_472 rfl rfl ?_
  refine G_eload_n (pc := 473) dL_law_473 rfl rfl ?_
  refine G_iload_n (pc := 474) dL_law_474 rfl rfl ?_
  refine G_iconst (pc := 475) (v := nI 1) dL_law_475 (by decide) ?_
  refine N_iadd (pc := 476) dL_law_476 ?_
  refine G_sld (pc := 477) dL_law_477 (vp_in_nI (by omega) (by omega)) ?_
  refine L_callV (av := [_]) (pc := 478) (z := mX9_shortest) (ci := 8) dL_law_478 zX9_shortest lL_law_58 rfl (by first | rfl | assumption) rfl rfl (PA_shortest h _ (fun x S1 kk => ⟨_, rfl, ?_⟩))
  refine G_aload_n (pc := 481) dL_law_481 rfl rfl ?_
  refine G_eload_n (pc := 482) dL_law_482 rfl rfl ?_
  refine G_iload_n (pc := 483) dL_law_483 rfl rfl ?_
  refine G_iconst (pc := 484) (v := nI 1) dL_law_484 (by decide) ?_
  refine N_iadd (pc := 485) dL_law_485 ?_
  refine G_sld (pc := 486) dL_law_486 (vp_in_nI (by omega) (by omega)) ?_
  refine L_callV (av := [_]) (pc := 487) (z := mX10_shortest) (ci := 9) dL_law_487 zX10_shortest lL_law_61 rfl (by first | rfl | assumption) rfl rfl (kk _ (fun S2 hI => ⟨_, rfl, ?_⟩))
  refine T_icmp_eq (pc := 490) (tgt := 1012) dL_law_490 (by decide) (fun c490 => ?_) (fun c490 => absurd c490 ((fun z => z rfl)))
  exact k S2 hI
set_option maxRecDepth 100000 in
set_option maxHeartbeats 4000000 in
theorem law_paper {i : Nat} (h : IV S n) (hN : sc.1 ≤ 3072) (hi : i + 6 ≤ sc.1) (k : ∀ S2, IV S2 (n + 1) → G sc mL_law 1012 [some (aE 1), some (aR 0), some (aR 389), some (aI (nI i))] [] (mkL S2) Q) : G sc mL_law 495 [some (aE 1), some (aR 0), some (aR 389), some (aI (nI i))] [] (mkL S) Q := by
  refine G_aload_n (pc := 495) dL_law_495 rfl rfl ?_
  refine G_eload_n (pc := 496) dL_law_496 rfl rfl ?_
  refine G_iload_n (pc := 497) dL_law_497 rfl rfl ?_
  refine G_iconst (pc := 498) (v := nI 1) dL_law_498 (by decide) ?_
  refine N_iadd (pc := 499) dL_law_499 ?_
  refine G_sld (pc := 500) dL_law_500 (vp_in_nI (by omega) (by omega)) ?_
  refine G_eload_n (pc := 501) dL_law_501 rfl rfl ?_
  refine G_iload_n (pc := 502) dL_law_502 rfl rfl ?_
  refine G_iconst (pc := 503) (v := nI 2) dL_law_503 (by decide) ?_
  refine N_iadd (pc := 504) dL_law_504 ?_
  refine G_sld (pc := 505) dL_law_505 (vp_in_nI (by omega) (by omega)) ?_
  refine L_callV (av := [_, _]) (pc := 506) (z := mX9_paper) (ci := 8) dL_law_506 zX9_paper lL_law_62 rfl (by first | rfl | assumption) rfl rfl (PA_paper h _ (fun x S1 kk => ⟨_, rfl, ?_⟩))
  refine G_aload_n (pc := 509) dL_law_509 rfl rfl ?_
  refine G_eload_n (pc := 510) dL_law_510 rfl rfl ?_
  refine G_iload_n (pc := 511) dL_law_511 rfl rfl ?_
  refine G_iconst (pc := 512) (v := nI 1) dL_law_512 (by decide) ?_
  refine N_iadd (pc := 513) dL_law_513 ?_
  refine G_sld (pc := 514) dL_law_514 (vp_in_nI (by omega) (by omega)) ?_
  refine G_eload_n (pc := 515) dL_law_515 rfl rfl ?_
  refine G_iload_n (pc := 516) dL_law_516 rfl rfl ?_
  refine G_iconst (pc := 517) (v := nI 2) dL_law_517 (by decide) ?_
  refine N_iadd (pc := 518) dL_law_518 ?_
  refine G_sld (pc := 519) dL_law_519 (vp_in_nI (by omega) (by omega)) ?_
  refine L_callV (av := [_, _]) (pc := 520) (z := mX10_paper) (ci := 9) dL_law_520 zX10_paper lL_law_65 rfl (by first | rfl | assumption) rfl rfl (kk _ (fun S2 hI => ⟨_, rfl, ?_⟩))
  refine T_icmp_eq (pc := 523) (tgt := 1012) dL_law_523 (by decide) (fun c523 => ?_) (fun c523 => absurd c523 ((fun z => z rfl)))
  exact k S2 hI
set_option maxRecDepth 100000 in
set_option maxHeartbeats 4000000 in
theorem law_differs {i : Nat} (h : IV S n) (hN : sc.1 ≤ 3072) (hi : i + 6 ≤ sc.1) (k : ∀ S2, IV S2 (n + 1) → G sc mL_law 1012 [some (aE 1), some (aR 0), some (aR 389), some (aI (nI i))] [] (mkL S2) Q) : G sc mL_law 528 [some (aE 1), some (aR 0), some (aR 389), some (aI (nI i))] [] (mkL S) Q := by
  refine G_aload_n (pc := 528) dL_law_528 rfl rfl ?_
  refine G_eload_n (pc := 529) dL_law_529 rfl rfl ?_
  refine G_iload_n (pc := 530) dL_law_530 rfl rfl ?_
  refine G_iconst (pc := 531) (v := nI 1) dL_law_531 (by decide) ?_
  refine N_iadd (pc := 532) dL_law_532 ?_
  refine G_sld (pc := 533) dL_law_533 (vp_in_nI (by omega) (by omega)) ?_
  refine L_callV (av := [_]) (pc := 534) (z := mX9_differs) (ci := 8) dL_law_534 zX9_differs lL_law_66 rfl (by first | rfl | assumption) rfl rfl (PA_differs h _ (fun x S1 kk => ⟨_, rfl, ?_⟩))
  refine G_aload_n (pc := 537) dL_law_537 rfl rfl ?_
  refine G_eload_n (pc := 538) dL_law_538 rfl rfl ?_
  refine G_iload_n (pc := 539) dL_law_539 rfl rfl ?_
  refine G_iconst (pc := 540) (v := nI 1) dL_law_540 (by decide) ?_
  refine N_iadd (pc := 541) dL_law_541 ?_
  refine G_sld (pc := 542) dL_law_542 (vp_in_nI (by omega) (by omega)) ?_
  refine L_callV (av := [_]) (pc := 543) (z := mX10_differs) (ci := 9) dL_law_543 zX10_differs lL_law_69 rfl (by first | rfl | assumption) rfl rfl (kk _ (fun S2 hI => ⟨_, rfl, ?_⟩))
  refine T_icmp_eq (pc := 546) (tgt := 1012) dL_law_546 (by decide) (fun c546 => ?_) (fun c546 => absurd c546 ((fun z => z rfl)))
  exact k S2 hI
set_option maxRecDepth 100000 in
set_option maxHeartbeats 4000000 in
theorem law_settle {i : Nat} (h : IV S n) (hN : sc.1 ≤ 3072) (hi : i + 6 ≤ sc.1) (k : ∀ S2, IV S2 (n + 1) → G sc mL_law 1012 [some (aE 1), some (aR 0), some (aR 389), some (aI (nI i))] [] (mkL S2) Q) : G sc mL_law 551 [some (aE 1), some (aR 0), some (aR 389), some (aI (nI i))] [] (mkL S) Q := by
  refine G_aload_n (pc := 551) dL_law_551 rfl rfl ?_
  refine L_callV (av := []) (pc := 552) (z := mX9_settle) (ci := 8) dL_law_552 zX9_settle lL_law_70 rfl (by first | rfl | assumption) rfl rfl (PA_settle h _ (fun x S1 kk => ⟨_, rfl, ?_⟩))
  refine G_aload_n (pc := 555) dL_law_555 rfl rfl ?_
  refine L_callV (av := []) (pc := 556) (z := mX10_settle) (ci := 9) dL_law_556 zX10_settle lL_law_73 rfl (by first | rfl | assumption) rfl rfl (kk _ (fun S2 hI => ⟨_, rfl, ?_⟩))
  refine T_icmp_eq (pc := 559) (tgt := 1012) dL_law_559 (by decide) (fun c559 => ?_) (fun c559 => absurd c559 ((fun z => z rfl)))
  exact k S2 hI
set_option maxRecDepth 100000 in
set_option maxHeartbeats 4000000 in
theorem law_odd {i : Nat} (h : IV S n) (hN : sc.1 ≤ 3072) (hi : i + 6 ≤ sc.1) (k : ∀ S2, IV S2 (n + 1) → G sc mL_law 1012 [some (aE 1), some (aR 0), some (aR 389), some (aI (nI i))] [] (mkL S2) Q) : G sc mL_law 564 [some (aE 1), some (aR 0), some (aR 389), some (aI (nI i))] [] (mkL S) Q := by
  refine G_aload_n (pc := 564) dL_law_564 rfl rfl ?_
  refine G_eload_n (pc := 565) dL_law_565 rfl rfl ?_
  refine G_iload_n (pc := 566) dL_law_566 rfl rfl ?_
  refine G_iconst (pc := 567) (v := nI 1) dL_law_567 (by decide) ?_
  refine N_iadd (pc := 568) dL_law_568 ?_
  refine G_sld (pc := 569) dL_law_569 (vp_in_nI (by omega) (by omega)) ?_
  refine L_callV (av := [_]) (pc := 570) (z := mX9_odd) (ci := 8) dL_law_570 zX9_odd lL_law_74 rfl (by first | rfl | assumption) rfl rfl (PA_odd h _ (fun x S1 kk => ⟨_, rfl, ?_⟩))
  refine G_aload_n (pc := 573) dL_law_573 rfl rfl ?_
  refine G_eload_n (pc := 574) dL_law_574 rfl rfl ?_
  refine G_iload_n (pc := 575) dL_law_575 rfl rfl ?_
  refine G_iconst (pc := 576) (v := nI 1) dL_law_576 (by decide) ?_
  refine N_iadd (pc := 577) dL_law_577 ?_
  refine G_sld (pc := 578) dL_law_578 (vp_in_nI (by omega) (by omega)) ?_
  refine L_callV (av := [_]) (pc := 579) (z := mX10_odd) (ci := 9) dL_law_579 zX10_odd lL_law_77 rfl (by first | rfl | assumption) rfl rfl (kk _ (fun S2 hI => ⟨_, rfl, ?_⟩))
  refine T_icmp_eq (pc := 582) (tgt := 1012) dL_law_582 (by decide) (fun c582 => ?_) (fun c582 => absurd c582 ((fun z => z rfl)))
  exact k S2 hI
set_option maxRecDepth 100000 in
set_option maxHeartbeats 4000000 in
theorem law_slips {i : Nat} (h : IV S n) (hN : sc.1 ≤ 3072) (hi : i + 6 ≤ sc.1) (k : ∀ S2, IV S2 (n + 1) → G sc mL_law 1012 [some (aE 1), some (aR 0), some (aR 389), some (aI (nI i))] [] (mkL S2) Q) : G sc mL_law 587 [some (aE 1), some (aR 0), some (aR 389), some (aI (nI i))] [] (mkL S) Q := by
  refine G_aload_n (pc := 587) dL_law_587 rfl rfl ?_
  refine L_callV (av := []) (pc := 588) (z := mX9_slips) (ci := 8) dL_law_588 zX9_slips lL_law_78 rfl (by first | rfl | assumption) rfl rfl (PA_slips h _ (fun x S1 kk => ⟨_, rfl, ?_⟩))
  refine G_aload_n (pc := 591) dL_law_591 rfl rfl ?_
  refine L_callV (av := []) (pc := 592) (z := mX10_slips) (ci := 9) dL_law_592 zX10_slips lL_law_81 rfl (by first | rfl | assumption) rfl rfl (kk _ (fun S2 hI => ⟨_, rfl, ?_⟩))
  refine T_icmp_eq (pc := 595) (tgt := 1012) dL_law_595 (by decide) (fun c595 => ?_) (fun c595 => absurd c595 ((fun z => z rfl)))
  exact k S2 hI
set_option maxRecDepth 100000 in
set_option maxHeartbeats 4000000 in
theorem law_state {i : Nat} (h : IV S n) (hN : sc.1 ≤ 3072) (hi : i + 6 ≤ sc.1) (k : ∀ S2, IV S2 (n + 1) → G sc mL_law 1012 [some (aE 1), some (aR 0), some (aR 389), some (aI (nI i))] [] (mkL S2) Q) : G sc mL_law 600 [some (aE 1), some (aR 0), some (aR 389), some (aI (nI i))] [] (mkL S) Q := by
  refine G_aload_n (pc := 600) dL_law_600 rfl rfl ?_
  refine G_eload_n (pc := 601) dL_law_601 rfl rfl ?_
  refine G_iload_n (pc := 602) dL_law_602 rfl rfl ?_
  refine G_iconst (pc := 603) (v := nI 1) dL_law_603 (by decide) ?_
  refine N_iadd (pc := 604) dL_law_604 ?_
  refine G_sld (pc := 605) dL_law_605 (vp_in_nI (by omega) (by omega)) ?_
  refine L_callV (av := [_]) (pc := 606) (z := mX9_state) (ci := 8) dL_law_606 zX9_state lL_law_82 rfl (by first | rfl | assumption) rfl rfl (PA_state h _ (fun x S1 kk => ⟨_, rfl, ?_⟩))
  refine G_aload_n (pc := 609) dL_law_609 rfl rfl ?_
  refine G_eload_n (pc := 610) dL_law_610 rfl rfl ?_
  refine G_iload_n (pc := 611) dL_law_611 rfl rfl ?_
  refine G_iconst (pc := 612) (v := nI 1) dL_law_612 (by decide) ?_
  refine N_iadd (pc := 613) dL_law_613 ?_
  refine G_sld (pc := 614) dL_law_614 (vp_in_nI (by omega) (by omega)) ?_
  refine L_callV (av := [_]) (pc := 615) (z := mX10_state) (ci := 9) dL_law_615 zX10_state lL_law_85 rfl (by first | rfl | assumption) rfl rfl (kk _ (fun S2 hI => ⟨_, rfl, ?_⟩))
  refine T_icmp_eq (pc := 618) (tgt := 1012) dL_law_618 (by decide) (fun c618 => ?_) (fun c618 => absurd c618 ((fun z => z rfl)))
  exact k S2 hI
set_option maxRecDepth 100000 in
set_option maxHeartbeats 4000000 in
theorem law_doing {i : Nat} (h : IV S n) (hn : n < 512) (hN : sc.1 ≤ 3072) (hi : i + 6 ≤ sc.1) (k : ∀ S2, IV S2 (n + 1) → G sc mL_law 1012 [some (aE 1), some (aR 0), some (aR 389), some (aI (nI i))] [] (mkL S2) Q) : G sc mL_law 623 [some (aE 1), some (aR 0), some (aR 389), some (aI (nI i))] [] (mkL S) Q := by
  refine G_aload_n (pc := 623) dL_law_623 rfl rfl ?_
  refine G_eload_n (pc := 624) dL_law_624 rfl rfl ?_
  refine G_iload_n (pc := 625) dL_law_625 rfl rfl ?_
  refine G_iconst (pc := 626) (v := nI 1) dL_law_626 (by decide) ?_
  refine N_iadd (pc := 627) dL_law_627 ?_
  refine G_sld (pc := 628) dL_law_628 (vp_in_nI (by omega) (by omega)) ?_
  refine L_callV (av := [_]) (pc := 629) (z := mX9_doing) (ci := 8) dL_law_629 zX9_doing lL_law_86 rfl (by first | rfl | assumption) rfl rfl (PA_doing h hn _ (fun x S1 kk => ⟨_, rfl, ?_⟩))
  refine G_aload_n (pc := 632) dL_law_632 rfl rfl ?_
  refine G_eload_n (pc := 633) dL_law_633 rfl rfl ?_
  refine G_iload_n (pc := 634) dL_law_634 rfl rfl ?_
  refine G_iconst (pc := 635) (v := nI 1) dL_law_635 (by decide) ?_
  refine N_iadd (pc := 636) dL_law_636 ?_
  refine G_sld (pc := 637) dL_law_637 (vp_in_nI (by omega) (by omega)) ?_
  refine L_callV (av := [_]) (pc := 638) (z := mX10_doing) (ci := 9) dL_law_638 zX10_doing lL_law_89 rfl (by first | rfl | assumption) rfl rfl (kk _ (fun S2 hI => ⟨_, rfl, ?_⟩))
  refine T_icmp_eq (pc := 641) (tgt := 1012) dL_law_641 (by decide) (fun c641 => ?_) (fun c641 => absurd c641 ((fun z => z rfl)))
  exact k S2 hI
set_option maxRecDepth 100000 in
set_option maxHeartbeats 4000000 in
theorem law_back {i : Nat} (h : IV S n) (hN : sc.1 ≤ 3072) (hi : i + 6 ≤ sc.1) (k : ∀ S2, IV S2 (n + 1) → G sc mL_law 1012 [some (aE 1), some (aR 0), some (aR 389), some (aI (nI i))] [] (mkL S2) Q) : G sc mL_law 646 [some (aE 1), some (aR 0), some (aR 389), some (aI (nI i))] [] (mkL S) Q := by
  refine G_aload_n (pc := 646) dL_law_646 rfl rfl ?_
  refine L_callV (av := []) (pc := 647) (z := mX9_back) (ci := 8) dL_law_647 zX9_back lL_law_90 rfl (by first | rfl | assumption) rfl rfl (PA_back h _ (fun x S1 kk => ⟨_, rfl, ?_⟩))
  refine G_aload_n (pc := 650) dL_law_650 rfl rfl ?_
  refine L_callV (av := []) (pc := 651) (z := mX10_back) (ci := 9) dL_law_651 zX10_back lL_law_93 rfl (by first | rfl | assumption) rfl rfl (kk _ (fun S2 hI => ⟨_, rfl, ?_⟩))
  refine T_icmp_eq (pc := 654) (tgt := 1012) dL_law_654 (by decide) (fun c654 => ?_) (fun c654 => absurd c654 ((fun z => z rfl)))
  exact k S2 hI
set_option maxRecDepth 100000 in
set_option maxHeartbeats 4000000 in
theorem law_end {i : Nat} (h : IV S n) (hN : sc.1 ≤ 3072) (hi : i + 6 ≤ sc.1) (k : ∀ S2, IV S2 (n + 1) → G sc mL_law 1012 [some (aE 1), some (aR 0), some (aR 389), some (aI (nI i))] [] (mkL S2) Q) : G sc mL_law 659 [some (aE 1), some (aR 0), some (aR 389), some (aI (nI i))] [] (mkL S) Q := by
  refine G_aload_n (pc := 659) dL_law_659 rfl rfl ?_
  refine G_eload_n (pc := 660) dL_law_660 rfl rfl ?_
  refine G_iload_n (pc := 661) dL_law_661 rfl rfl ?_
  refine G_iconst (pc := 662) (v := nI 1) dL_law_662 (by decide) ?_
  refine N_iadd (pc := 663) dL_law_663 ?_
  refine G_sld (pc := 664) dL_law_664 (vp_in_nI (by omega) (by omega)) ?_
  refine G_eload_n (pc := 665) dL_law_665 rfl rfl ?_
  refine G_iload_n (pc := 666) dL_law_666 rfl rfl ?_
  refine G_iconst (pc := 667) (v := nI 2) dL_law_667 (by decide) ?_
  refine N_iadd (pc := 668) dL_law_668 ?_
  refine G_sld (pc := 669) dL_law_669 (vp_in_nI (by omega) (by omega)) ?_
  refine L_callV (av := [_, _]) (pc := 670) (z := mX9_end) (ci := 8) dL_law_670 zX9_end lL_law_94 rfl (by first | rfl | assumption) rfl rfl (PA_end h _ (fun x S1 kk => ⟨_, rfl, ?_⟩))
  refine G_aload_n (pc := 673) dL_law_673 rfl rfl ?_
  refine G_eload_n (pc := 674) dL_law_674 rfl rfl ?_
  refine G_iload_n (pc := 675) dL_law_675 rfl rfl ?_
  refine G_iconst (pc := 676) (v := nI 1) dL_law_676 (by decide) ?_
  refine N_iadd (pc := 677) dL_law_677 ?_
  refine G_sld (pc := 678) dL_law_678 (vp_in_nI (by omega) (by omega)) ?_
  refine G_eload_n (pc := 679) dL_law_679 rfl rfl ?_
  refine G_iload_n (pc := 680) dL_law_680 rfl rfl ?_
  refine G_iconst (pc := 681) (v := nI 2) dL_law_681 (by decide) ?_
  refine N_iadd (pc := 682) dL_law_682 ?_
  refine G_sld (pc := 683) dL_law_683 (vp_in_nI (by omega) (by omega)) ?_
  refine L_callV (av := [_, _]) (pc := 684) (z := mX10_end) (ci := 9) dL_law_684 zX10_end lL_law_97 rfl (by first | rfl | assumption) rfl rfl (kk _ (fun S2 hI => ⟨_, rfl, ?_⟩))
  refine T_icmp_eq (pc := 687) (tgt := 1012) dL_law_687 (by decide) (fun c687 => ?_) (fun c687 => absurd c687 ((fun z => z rfl)))
  exact k S2 hI
set_option maxRecDepth 100000 in
set_option maxHeartbeats 4000000 in
theorem law_otherwise {i : Nat} (h : IV S n) (hN : sc.1 ≤ 3072) (hi : i + 6 ≤ sc.1) (k : ∀ S2, IV S2 (n + 1) → G sc mL_law 1012 [some (aE 1), some (aR 0), some (aR 389), some (aI (nI i))] [] (mkL S2) Q) : G sc mL_law 692 [some (aE 1), some (aR 0), some (aR 389), some (aI (nI i))] [] (mkL S) Q := by
  refine G_aload_n (pc := 692) dL_law_692 rfl rfl ?_
  refine L_callV (av := []) (pc := 693) (z := mX9_otherwise) (ci := 8) dL_law_693 zX9_otherwise lL_law_98 rfl (by first | rfl | assumption) rfl rfl (PA_otherwise h _ (fun x S1 kk => ⟨_, rfl, ?_⟩))
  refine G_aload_n (pc := 696) dL_law_696 rfl rfl ?_
  refine L_callV (av := []) (pc := 697) (z := mX10_otherwise) (ci := 9) dL_law_697 zX10_otherwise lL_law_101 rfl (by first | rfl | assumption) rfl rfl (kk _ (fun S2 hI => ⟨_, rfl, ?_⟩))
  refine T_icmp_eq (pc := 700) (tgt := 1012) dL_law_700 (by decide) (fun c700 => ?_) (fun c700 => absurd c700 ((fun z => z rfl)))
  exact k S2 hI
set_option maxRecDepth 100000 in
set_option maxHeartbeats 4000000 in
theorem law_keep {i : Nat} (h : IV S n) (hN : sc.1 ≤ 3072) (hi : i + 6 ≤ sc.1) (k : ∀ S2, IV S2 (n + 1) → G sc mL_law 1012 [some (aE 1), some (aR 0), some (aR 389), some (aI (nI i))] [] (mkL S2) Q) : G sc mL_law 705 [some (aE 1), some (aR 0), some (aR 389), some (aI (nI i))] [] (mkL S) Q := by
  refine G_aload_n (pc := 705) dL_law_705 rfl rfl ?_
  refine L_callV (av := []) (pc := 706) (z := mX9_keep) (ci := 8) dL_law_706 zX9_keep lL_law_102 rfl (by first | rfl | assumption) rfl rfl (PA_keep h _ (fun x S1 kk => ⟨_, rfl, ?_⟩))
  refine G_aload_n (pc := 709) dL_law_709 rfl rfl ?_
  refine L_callV (av := []) (pc := 710) (z := mX10_keep) (ci := 9) dL_law_710 zX10_keep lL_law_105 rfl (by first | rfl | assumption) rfl rfl (kk _ (fun S2 hI => ⟨_, rfl, ?_⟩))
  refine T_icmp_eq (pc := 713) (tgt := 1012) dL_law_713 (by decide) (fun c713 => ?_) (fun c713 => absurd c713 ((fun z => z rfl)))
  exact k S2 hI
set_option maxRecDepth 100000 in
set_option maxHeartbeats 4000000 in
theorem law_text {i : Nat} (h : IV S n) (hN : sc.1 ≤ 3072) (hi : i + 6 ≤ sc.1) (k : ∀ S2, IV S2 (n + 1) → G sc mL_law 1012 [some (aE 1), some (aR 0), some (aR 389), some (aI (nI i))] [] (mkL S2) Q) : G sc mL_law 718 [some (aE 1), some (aR 0), some (aR 389), some (aI (nI i))] [] (mkL S) Q := by
  refine G_aload_n (pc := 718) dL_law_718 rfl rfl ?_
  refine L_callV (av := []) (pc := 719) (z := mX9_text) (ci := 8) dL_law_719 zX9_text lL_law_106 rfl (by first | rfl | assumption) rfl rfl (PA_text h _ (fun x S1 kk => ⟨_, rfl, ?_⟩))
  refine G_aload_n (pc := 722) dL_law_722 rfl rfl ?_
  refine L_callV (av := []) (pc := 723) (z := mX10_text) (ci := 9) dL_law_723 zX10_text lL_law_109 rfl (by first | rfl | assumption) rfl rfl (kk _ (fun S2 hI => ⟨_, rfl, ?_⟩))
  refine T_icmp_eq (pc := 726) (tgt := 1012) dL_law_726 (by decide) (fun c726 => ?_) (fun c726 => absurd c726 ((fun z => z rfl)))
  exact k S2 hI
set_option maxRecDepth 100000 in
set_option maxHeartbeats 4000000 in
theorem law_kept {i : Nat} (h : IV S n) (hN : sc.1 ≤ 3072) (hi : i + 6 ≤ sc.1) (k : ∀ S2, IV S2 (n + 1) → G sc mL_law 1012 [some (aE 1), some (aR 0), some (aR 389), some (aI (nI i))] [] (mkL S2) Q) : G sc mL_law 731 [some (aE 1), some (aR 0), some (aR 389), some (aI (nI i))] [] (mkL S) Q := by
  refine G_aload_n (pc := 731) dL_law_731 rfl rfl ?_
  refine G_eload_n (pc := 732) dL_law_732 rfl rfl ?_
  refine G_iload_n (pc := 733) dL_law_733 rfl rfl ?_
  refine G_iconst (pc := 734) (v := nI 1) dL_law_734 (by decide) ?_
  refine N_iadd (pc := 735) dL_law_735 ?_
  refine G_sld (pc := 736) dL_law_736 (vp_in_nI (by omega) (by omega)) ?_
  refine G_eload_n (pc := 737) dL_law_737 rfl rfl ?_
  refine G_iload_n (pc := 738) dL_law_738 rfl rfl ?_
  refine G_iconst (pc := 739) (v := nI 2) dL_law_739 (by decide) ?_
  refine N_iadd (pc := 740) dL_law_740 ?_
  refine G_sld (pc := 741) dL_law_741 (vp_in_nI (by omega) (by omega)) ?_
  refine L_callV (av := [_, _]) (pc := 742) (z := mX9_kept) (ci := 8) dL_law_742 zX9_kept lL_law_110 rfl (by first | rfl | assumption) rfl rfl (PA_kept h _ (fun x S1 kk => ⟨_, rfl, ?_⟩))
  refine G_aload_n (pc := 745) dL_law_745 rfl rfl ?_
  refine G_eload_n (pc := 746) dL_law_746 rfl rfl ?_
  refine G_iload_n (pc := 747) dL_law_747 rfl rfl ?_
  refine G_iconst (pc := 748) (v := nI 1) dL_law_748 (by decide) ?_
  refine N_iadd (pc := 749) dL_law_749 ?_
  refine G_sld (pc := 750) dL_law_750 (vp_in_nI (by omega) (by omega)) ?_
  refine G_eload_n (pc := 751) dL_law_751 rfl rfl ?_
  refine G_iload_n (pc := 752) dL_law_752 rfl rfl ?_
  refine G_iconst (pc := 753) (v := nI 2) dL_law_753 (by decide) ?_
  refine N_iadd (pc := 754) dL_law_754 ?_
  refine G_sld (pc := 755) dL_law_755 (vp_in_nI (by omega) (by omega)) ?_
  refine L_callV (av := [_, _]) (pc := 756) (z := mX10_kept) (ci := 9) dL_law_756 zX10_kept lL_law_113 rfl (by first | rfl | assumption) rfl rfl (kk _ (fun S2 hI => ⟨_, rfl, ?_⟩))
  refine T_icmp_eq (pc := 759) (tgt := 1012) dL_law_759 (by decide) (fun c759 => ?_) (fun c759 => absurd c759 ((fun z => z rfl)))
  exact k S2 hI
set_option maxRecDepth 100000 in
set_option maxHeartbeats 4000000 in
theorem law_run {i : Nat} (h : IV S n) (hN : sc.1 ≤ 3072) (hi : i + 6 ≤ sc.1) (k : ∀ S2, IV S2 (n + 1) → G sc mL_law 1012 [some (aE 1), some (aR 0), some (aR 389), some (aI (nI i))] [] (mkL S2) Q) : G sc mL_law 764 [some (aE 1), some (aR 0), some (aR 389), some (aI (nI i))] [] (mkL S) Q := by
  refine G_aload_n (pc := 764) dL_law_764 rfl rfl ?_
  refine G_eload_n (pc := 765) dL_law_765 rfl rfl ?_
  refine G_iload_n (pc := 766) dL_law_766 rfl rfl ?_
  refine G_iconst (pc := 767) (v := nI 1) dL_law_767 (by decide) ?_
  refine N_iadd (pc := 768) dL_law_768 ?_
  refine G_sld (pc := 769) dL_law_769 (vp_in_nI (by omega) (by omega)) ?_
  refine G_eload_n (pc := 770) dL_law_770 rfl rfl ?_
  refine G_iload_n (pc := 771) dL_law_771 rfl rfl ?_
  refine G_iconst (pc := 772) (v := nI 2) dL_law_772 (by decide) ?_
  refine N_iadd (pc := 773) dL_law_773 ?_
  refine G_sld (pc := 774) dL_law_774 (vp_in_nI (by omega) (by omega)) ?_
  refine G_eload_n (pc := 775) dL_law_775 rfl rfl ?_
  refine G_iload_n (pc := 776) dL_law_776 rfl rfl ?_
  refine G_iconst (pc := 777) (v := nI 3) dL_law_777 (by decide) ?_
  refine N_iadd (pc := 778) dL_law_778 ?_
  refine G_sld (pc := 779) dL_law_779 (vp_in_nI (by omega) (by omega)) ?_
  refine L_callV (av := [_, _, _]) (pc := 780) (z := mX9_run) (ci := 8) dL_law_780 zX9_run lL_law_114 rfl (by first | rfl | assumption) rfl rfl (PA_run h _ (fun x S1 kk => ⟨_, rfl, ?_⟩))
  refine G_aload_n (pc := 783) dL_law_783 rfl rfl ?_
  refine G_eload_n (pc := 784) dL_law_784 rfl rfl ?_
  refine G_iload_n (pc := 785) dL_law_785 rfl rfl ?_
  refine G_iconst (pc := 786) (v := nI 1) dL_law_786 (by decide) ?_
  refine N_iadd (pc := 787) dL_law_787 ?_
  refine G_sld (pc := 788) dL_law_788 (vp_in_nI (by omega) (by omega)) ?_
  refine G_eload_n (pc := 789) dL_law_789 rfl rfl ?_
  refine G_iload_n (pc := 790) dL_law_790 rfl rfl ?_
  refine G_iconst (pc := 791) (v := nI 2) dL_law_791 (by decide) ?_
  refine N_iadd (pc := 792) dL_law_792 ?_
  refine G_sld (pc := 793) dL_law_793 (vp_in_nI (by omega) (by omega)) ?_
  refine G_eload_n (pc := 794) dL_law_794 rfl rfl ?_
  refine G_iload_n (pc := 795) dL_law_795 rfl rfl ?_
  refine G_iconst (pc := 796) (v := nI 3) dL_law_796 (by decide) ?_
  refine N_iadd (pc := 797) dL_law_797 ?_
  refine G_sld (pc := 798) dL_law_798 (vp_in_nI (by omega) (by omega)) ?_
  refine L_callV (av := [_, _, _]) (pc := 799) (z := mX10_run) (ci := 9) dL_law_799 zX10_run lL_law_117 rfl (by first | rfl | assumption) rfl rfl (kk _ (fun S2 hI => ⟨_, rfl, ?_⟩))
  refine T_icmp_eq (pc := 802) (tgt := 1012) dL_law_802 (by decide) (fun c802 => ?_) (fun c802 => absurd c802 ((fun z => z rfl)))
  exact k S2 hI
set_option maxRecDepth 100000 in
set_option maxHeartbeats 4000000 in
theorem law_count {i : Nat} (h : IV S n) (hN : sc.1 ≤ 3072) (hi : i + 6 ≤ sc.1) (k : ∀ S2, IV S2 (n + 1) → G sc mL_law 1012 [some (aE 1), some (aR 0), some (aR 389), some (aI (nI i))] [] (mkL S2) Q) : G sc mL_law 807 [some (aE 1), some (aR 0), some (aR 389), some (aI (nI i))] [] (mkL S) Q := by
  refine G_aload_n (pc := 807) dL_law_807 rfl rfl ?_
  refine G_eload_n (pc := 808) dL_law_808 rfl rfl ?_
  refine G_iload_n (pc := 809) dL_law_809 rfl rfl ?_
  refine G_iconst (pc := 810) (v := nI 1) dL_law_810 (by decide) ?_
  refine N_iadd (pc := 811) dL_law_811 ?_
  refine G_sld (pc := 812) dL_law_812 (vp_in_nI (by omega) (by omega)) ?_
  refine L_callV (av := [_]) (pc := 813) (z := mX9_count) (ci := 8) dL_law_813 zX9_count lL_law_118 rfl (by first | rfl | assumption) rfl rfl (PA_count h _ (fun x S1 kk => ⟨_, rfl, ?_⟩))
  refine G_aload_n (pc := 816) dL_law_816 rfl rfl ?_
  refine G_eload_n (pc := 817) dL_law_817 rfl rfl ?_
  refine G_iload_n (pc := 818) dL_law_818 rfl rfl ?_
  refine G_iconst (pc := 819) (v := nI 1) dL_law_819 (by decide) ?_
  refine N_iadd (pc := 820) dL_law_820 ?_
  refine G_sld (pc := 821) dL_law_821 (vp_in_nI (by omega) (by omega)) ?_
  refine L_callV (av := [_]) (pc := 822) (z := mX10_count) (ci := 9) dL_law_822 zX10_count lL_law_121 rfl (by first | rfl | assumption) rfl rfl (kk _ (fun S2 hI => ⟨_, rfl, ?_⟩))
  refine T_icmp_eq (pc := 825) (tgt := 1012) dL_law_825 (by decide) (fun c825 => ?_) (fun c825 => absurd c825 ((fun z => z rfl)))
  exact k S2 hI
set_option maxRecDepth 100000 in
set_option maxHeartbeats 4000000 in
theorem law_sheet {i : Nat} (h : IV S n) (hN : sc.1 ≤ 3072) (hi : i + 6 ≤ sc.1) (k : ∀ S2, IV S2 (n + 1) → G sc mL_law 1012 [some (aE 1), some (aR 0), some (aR 389), some (aI (nI i))] [] (mkL S2) Q) : G sc mL_law 830 [some (aE 1), some (aR 0), some (aR 389), some (aI (nI i))] [] (mkL S) Q := by
  refine G_aload_n (pc := 830) dL_law_830 rfl rfl ?_
  refine G_eload_n (pc := 831) dL_law_831 rfl rfl ?_
  refine G_iload_n (pc := 832) dL_law_832 rfl rfl ?_
  refine G_iconst (pc := 833) (v := nI 1) dL_law_833 (by decide) ?_
  refine N_iadd (pc := 834) dL_law_834 ?_
  refine G_sld (pc := 835) dL_law_835 (vp_in_nI (by omega) (by omega)) ?_
  refine G_eload_n (pc := 836) dL_law_836 rfl rfl ?_
  refine G_iload_n (pc := 837) dL_law_837 rfl rfl ?_
  refine G_iconst (pc := 838) (v := nI 2) dL_law_838 (by decide) ?_
  refine N_iadd (pc := 839) dL_law_839 ?_
  refine G_sld (pc := 840) dL_law_840 (vp_in_nI (by omega) (by omega)) ?_
  refine G_eload_n (pc := 841) dL_law_841 rfl rfl ?_
  refine G_iload_n (pc := 842) dL_law_842 rfl rfl ?_
  refine G_iconst (pc := 843) (v := nI 3) dL_law_843 (by decide) ?_
  refine N_iadd (pc := 844) dL_law_844 ?_
  refine G_sld (pc := 845) dL_law_845 (vp_in_nI (by omega) (by omega)) ?_
  refine L_callV (av := [_, _, _]) (pc := 846) (z := mX9_sheet) (ci := 8) dL_law_846 zX9_sheet lL_law_122 rfl (by first | rfl | assumption) rfl rfl (PA_sheet h _ (fun x S1 kk => ⟨_, rfl, ?_⟩))
  refine G_aload_n (pc := 849) dL_law_849 rfl rfl ?_
  refine G_eload_n (pc := 850) dL_law_850 rfl rfl ?_
  refine G_iload_n (pc := 851) dL_law_851 rfl rfl ?_
  refine G_iconst (pc := 852) (v := nI 1) dL_law_852 (by decide) ?_
  refine N_iadd (pc := 853) dL_law_853 ?_
  refine G_sld (pc := 854) dL_law_854 (vp_in_nI (by omega) (by omega)) ?_
  refine G_eload_n (pc := 855) dL_law_855 rfl rfl ?_
  refine G_iload_n (pc := 856) dL_law_856 rfl rfl ?_
  refine G_iconst (pc := 857) (v := nI 2) dL_law_857 (by decide) ?_
  refine N_iadd (pc := 858) dL_law_858 ?_
  refine G_sld (pc := 859) dL_law_859 (vp_in_nI (by omega) (by omega)) ?_
  refine G_eload_n (pc := 860) dL_law_860 rfl rfl ?_
  refine G_iload_n (pc := 861) dL_law_861 rfl rfl ?_
  refine G_iconst (pc := 862) (v := nI 3) dL_law_862 (by decide) ?_
  refine N_iadd (pc := 863) dL_law_863 ?_
  refine G_sld (pc := 864) dL_law_864 (vp_in_nI (by omega) (by omega)) ?_
  refine L_callV (av := [_, _, _]) (pc := 865) (z := mX10_sheet) (ci := 9) dL_law_865 zX10_sheet lL_law_125 rfl (by first | rfl | assumption) rfl rfl (kk _ (fun S2 hI => ⟨_, rfl, ?_⟩))
  refine T_icmp_eq (pc := 868) (tgt := 1012) dL_law_868 (by decide) (fun c868 => ?_) (fun c868 => absurd c868 ((fun z => z rfl)))
  exact k S2 hI
set_option maxRecDepth 100000 in
set_option maxHeartbeats 4000000 in
theorem law_drop {i : Nat} (h : IV S n) (hN : sc.1 ≤ 3072) (hi : i + 6 ≤ sc.1) (k : ∀ S2, IV S2 (n + 1) → G sc mL_law 1012 [some (aE 1), some (aR 0), some (aR 389), some (aI (nI i))] [] (mkL S2) Q) : G sc mL_law 873 [some (aE 1), some (aR 0), some (aR 389), some (aI (nI i))] [] (mkL S) Q := by
  refine G_aload_n (pc := 873) dL_law_873 rfl rfl ?_
  refine G_eload_n (pc := 874) dL_law_874 rfl rfl ?_
  refine G_iload_n (pc := 875) dL_law_875 rfl rfl ?_
  refine G_iconst (pc := 876) (v := nI 1) dL_law_876 (by decide) ?_
  refine N_iadd (pc := 877) dL_law_877 ?_
  refine G_sld (pc := 878) dL_law_878 (vp_in_nI (by omega) (by omega)) ?_
  refine L_callV (av := [_]) (pc := 879) (z := mX9_drop) (ci := 8) dL_law_879 zX9_drop lL_law_126 rfl (by first | rfl | assumption) rfl rfl (PA_drop h _ (fun x S1 kk => ⟨_, rfl, ?_⟩))
  refine G_aload_n (pc := 882) dL_law_882 rfl rfl ?_
  refine G_eload_n (pc := 883) dL_law_883 rfl rfl ?_
  refine G_iload_n (pc := 884) dL_law_884 rfl rfl ?_
  refine G_iconst (pc := 885) (v := nI 1) dL_law_885 (by decide) ?_
  refine N_iadd (pc := 886) dL_law_886 ?_
  refine G_sld (pc := 887) dL_law_887 (vp_in_nI (by omega) (by omega)) ?_
  refine L_callV (av := [_]) (pc := 888) (z := mX10_drop) (ci := 9) dL_law_888 zX10_drop lL_law_129 rfl (by first | rfl | assumption) rfl rfl (kk _ (fun S2 hI => ⟨_, rfl, ?_⟩))
  refine T_icmp_eq (pc := 891) (tgt := 1012) dL_law_891 (by decide) (fun c891 => ?_) (fun c891 => absurd c891 ((fun z => z rfl)))
  exact k S2 hI
set_option maxRecDepth 100000 in
set_option maxHeartbeats 4000000 in
theorem law_item {i : Nat} (h : IV S n) (hN : sc.1 ≤ 3072) (hi : i + 6 ≤ sc.1) (k : ∀ S2, IV S2 (n + 1) → G sc mL_law 1012 [some (aE 1), some (aR 0), some (aR 389), some (aI (nI i))] [] (mkL S2) Q) : G sc mL_law 896 [some (aE 1), some (aR 0), some (aR 389), some (aI (nI i))] [] (mkL S) Q := by
  refine G_aload_n (pc := 896) dL_law_896 rfl rfl ?_
  refine G_eload_n (pc := 897) dL_law_897 rfl rfl ?_
  refine G_iload_n (pc := 898) dL_law_898 rfl rfl ?_
  refine G_iconst (pc := 899) (v := nI 1) dL_law_899 (by decide) ?_
  refine N_iadd (pc := 900) dL_law_900 ?_
  refine G_sld (pc := 901) dL_law_901 (vp_in_nI (by omega) (by omega)) ?_
  refine G_eload_n (pc := 902) dL_law_902 rfl rfl ?_
  refine G_iload_n (pc := 903) dL_law_903 rfl rfl ?_
  refine G_iconst (pc := 904) (v := nI 2) dL_law_904 (by decide) ?_
  refine N_iadd (pc := 905) dL_law_905 ?_
  refine G_sld (pc := 906) dL_law_906 (vp_in_nI (by omega) (by omega)) ?_
  refine G_eload_n (pc := 907) dL_law_907 rfl rfl ?_
  refine G_iload_n (pc := 908) dL_law_908 rfl rfl ?_
  refine G_iconst (pc := 909) (v := nI 3) dL_law_909 (by decide) ?_
  refine N_iadd (pc := 910) dL_law_910 ?_
  refine G_sld (pc := 911) dL_law_911 (vp_in_nI (by omega) (by omega)) ?_
  refine G_eload_n (pc := 912) dL_law_912 rfl rfl ?_
  refine G_iload_n (pc := 913) dL_law_913 rfl rfl ?_
  refine G_iconst (pc := 914) (v := nI 4) dL_law_914 (by decide) ?_
  refine N_iadd (pc := 915) dL_law_915 ?_
  refine G_sld (pc := 916) dL_law_916 (vp_in_nI (by omega) (by omega)) ?_
  refine L_callV (av := [_, _, _, _]) (pc := 917) (z := mX9_item) (ci := 8) dL_law_917 zX9_item lL_law_130 rfl (by first | rfl | assumption) rfl rfl (PA_item h _ (fun x S1 kk => ⟨_, rfl, ?_⟩))
  refine G_aload_n (pc := 920) dL_law_920 rfl rfl ?_
  refine G_eload_n (pc := 921) dL_law_921 rfl rfl ?_
  refine G_iload_n (pc := 922) dL_law_922 rfl rfl ?_
  refine G_iconst (pc := 923) (v := nI 1) dL_law_923 (by decide) ?_
  refine N_iadd (pc := 924) dL_law_924 ?_
  refine G_sld (pc := 925) dL_law_925 (vp_in_nI (by omega) (by omega)) ?_
  refine G_eload_n (pc := 926) dL_law_926 rfl rfl ?_
  refine G_iload_n (pc := 927) dL_law_927 rfl rfl ?_
  refine G_iconst (pc := 928) (v := nI 2) dL_law_928 (by decide) ?_
  refine N_iadd (pc := 929) dL_law_929 ?_
  refine G_sld (pc := 930) dL_law_930 (vp_in_nI (by omega) (by omega)) ?_
  refine G_eload_n (pc := 931) dL_law_931 rfl rfl ?_
  refine G_iload_n (pc := 932) dL_law_932 rfl rfl ?_
  refine G_iconst (pc := 933) (v := nI 3) dL_law_933 (by decide) ?_
  refine N_iadd (pc := 934) dL_law_934 ?_
  refine G_sld (pc := 935) dL_law_935 (vp_in_nI (by omega) (by omega)) ?_
  refine G_eload_n (pc := 936) dL_law_936 rfl rfl ?_
  refine G_iload_n (pc := 937) dL_law_937 rfl rfl ?_
  refine G_iconst (pc := 938) (v := nI 4) dL_law_938 (by decide) ?_
  refine N_iadd (pc := 939) dL_law_939 ?_
  refine G_sld (pc := 940) dL_law_940 (vp_in_nI (by omega) (by omega)) ?_
  refine L_callV (av := [_, _, _, _]) (pc := 941) (z := mX10_item) (ci := 9) dL_law_941 zX10_item lL_law_133 rfl (by first | rfl | assumption) rfl rfl (kk _ (fun S2 hI => ⟨_, rfl, ?_⟩))
  refine T_icmp_eq (pc := 944) (tgt := 1012) dL_law_944 (by decide) (fun c944 => ?_) (fun c944 => absurd c944 ((fun z => z rfl)))
  exact k S2 hI
set_option maxRecDepth 100000 in
set_option maxHeartbeats 4000000 in
theorem law_put {i : Nat} (h : IV S n) (hN : sc.1 ≤ 3072) (hi : i + 6 ≤ sc.1) (k : ∀ S2, IV S2 (n + 1) → G sc mL_law 1012 [some (aE 1), some (aR 0), some (aR 389), some (aI (nI i))] [] (mkL S2) Q) : G sc mL_law 949 [some (aE 1), some (aR 0), some (aR 389), some (aI (nI i))] [] (mkL S) Q := by
  refine G_aload_n (pc := 949) dL_law_949 rfl rfl ?_
  refine G_eload_n (pc := 950) dL_law_950 rfl rfl ?_
  refine G_iload_n (pc := 951) dL_law_951 rfl rfl ?_
  refine G_iconst (pc := 952) (v := nI 1) dL_law_952 (by decide) ?_
  refine N_iadd (pc := 953) dL_law_953 ?_
  refine G_sld (pc := 954) dL_law_954 (vp_in_nI (by omega) (by omega)) ?_
  refine G_eload_n (pc := 955) dL_law_955 rfl rfl ?_
  refine G_iload_n (pc := 956) dL_law_956 rfl rfl ?_
  refine G_iconst (pc := 957) (v := nI 2) dL_law_957 (by decide) ?_
  refine N_iadd (pc := 958) dL_law_958 ?_
  refine G_sld (pc := 959) dL_law_959 (vp_in_nI (by omega) (by omega)) ?_
  refine G_eload_n (pc := 960) dL_law_960 rfl rfl ?_
  refine G_iload_n (pc := 961) dL_law_961 rfl rfl ?_
  refine G_iconst (pc := 962) (v := nI 3) dL_law_962 (by decide) ?_
  refine N_iadd (pc := 963) dL_law_963 ?_
  refine G_sld (pc := 964) dL_law_964 (vp_in_nI (by omega) (by omega)) ?_
  refine G_eload_n (pc := 965) dL_law_965 rfl rfl ?_
  refine G_iload_n (pc := 966) dL_law_966 rfl rfl ?_
  refine G_iconst (pc := 967) (v := nI 4) dL_law_967 (by decide) ?_
  refine N_iadd (pc := 968) dL_law_968 ?_
  refine G_sld (pc := 969) dL_law_969 (vp_in_nI (by omega) (by omega)) ?_
  refine G_eload_n (pc := 970) dL_law_970 rfl rfl ?_
  refine G_iload_n (pc := 971) dL_law_971 rfl rfl ?_
  refine G_iconst (pc := 972) (v := nI 5) dL_law_972 (by decide) ?_
  refine N_iadd (pc := 973) dL_law_973 ?_
  refine G_sld (pc := 974) dL_law_974 (vp_in_nI (by omega) (by omega)) ?_
  refine L_callV (av := [_, _, _, _, _]) (pc := 975) (z := mX9_put) (ci := 8) dL_law_975 zX9_put lL_law_134 rfl (by first | rfl | assumption) rfl rfl (PA_put h _ (fun x S1 kk => ⟨_, rfl, ?_⟩))
  refine G_aload_n (pc := 978) dL_law_978 rfl rfl ?_
  refine G_eload_n (pc := 979) dL_law_979 rfl rfl ?_
  refine G_iload_n (pc := 980) dL_law_980 rfl rfl ?_
  refine G_iconst (pc := 981) (v := nI 1) dL_law_981 (by decide) ?_
  refine N_iadd (pc := 982) dL_law_982 ?_
  refine G_sld (pc := 983) dL_law_983 (vp_in_nI (by omega) (by omega)) ?_
  refine G_eload_n (pc := 984) dL_law_984 rfl rfl ?_
  refine G_iload_n (pc := 985) dL_law_985 rfl rfl ?_
  refine G_iconst (pc := 986) (v := nI 2) dL_law_986 (by decide) ?_
  refine N_iadd (pc := 987) dL_law_987 ?_
  refine G_sld (pc := 988) dL_law_988 (vp_in_nI (by omega) (by omega)) ?_
  refine G_eload_n (pc := 989) dL_law_989 rfl rfl ?_
  refine G_iload_n (pc := 990) dL_law_990 rfl rfl ?_
  refine G_iconst (pc := 991) (v := nI 3) dL_law_991 (by decide) ?_
  refine N_iadd (pc := 992) dL_law_992 ?_
  refine G_sld (pc := 993) dL_law_993 (vp_in_nI (by omega) (by omega)) ?_
  refine G_eload_n (pc := 994) dL_law_994 rfl rfl ?_
  refine G_iload_n (pc := 995) dL_law_995 rfl rfl ?_
  refine G_iconst (pc := 996) (v := nI 4) dL_law_996 (by decide) ?_
  refine N_iadd (pc := 997) dL_law_997 ?_
  refine G_sld (pc := 998) dL_law_998 (vp_in_nI (by omega) (by omega)) ?_
  refine G_eload_n (pc := 999) dL_law_999 rfl rfl ?_
  refine G_iload_n (pc := 1000) dL_law_1000 rfl rfl ?_
  refine G_iconst (pc := 1001) (v := nI 5) dL_law_1001 (by decide) ?_
  refine N_iadd (pc := 1002) dL_law_1002 ?_
  refine G_sld (pc := 1003) dL_law_1003 (vp_in_nI (by omega) (by omega)) ?_
  refine L_callV (av := [_, _, _, _, _]) (pc := 1004) (z := mX10_put) (ci := 9) dL_law_1004 zX10_put lL_law_138 rfl (by first | rfl | assumption) rfl rfl (kk _ (fun S2 hI => ⟨_, rfl, ?_⟩))
  refine T_icmp_eq (pc := 1007) (tgt := 1012) dL_law_1007 (by decide) (fun c1007 => ?_) (fun c1007 => absurd c1007 ((fun z => z rfl)))
  exact k S2 hI
theorem and31 (x : Int32) : 0 ≤ (x &&& nI 31).toInt ∧ (x &&& nI 31).toInt ≤ 31 := by
  have e : (x &&& nI 31) = nI (x.toBitVec.toNat % 32) := by
    apply Int32.toBitVec_inj.1
    show x.toBitVec &&& BitVec.ofNat 32 31 = BitVec.ofNat 32 (x.toBitVec.toNat % 32)
    apply BitVec.eq_of_toNat_eq
    rw [BitVec.toNat_and, BitVec.toNat_ofNat, BitVec.toNat_ofNat]
    rw [show 31 % 2 ^ 32 = 2 ^ 5 - 1 from rfl, Nat.and_two_pow_sub_one_eq_mod]
    rw [Nat.mod_eq_of_lt (a := x.toBitVec.toNat % 32) (by omega)]
  rw [e, nIt (by omega)]
  omega
set_option maxRecDepth 100000 in
set_option maxHeartbeats 4000000 in
theorem law_sw {i : Nat} {x : Int32} (h : IV S n) (hn : n < 512) (hN : sc.1 ≤ 3072) (hi : i + 6 ≤ sc.1) (k : ∀ S2, IV S2 (n + 1) → G sc mL_law 1012 [some (aE 1), some (aR 0), some (aR 389), some (aI (nI i))] [] (mkL S2) Q) : G sc mL_law 33 [some (aE 1), some (aR 0), some (aR 389), some (aI (nI i))] [aI (x &&& nI 31)] (mkL S) Q := by
  obtain ⟨h1, h2⟩ := and31 x
  generalize x &&& nI 31 = y at *
  by_cases q : 28 < y.toInt
  · exact G_tableOut (pc := 33) (tgt := 1012) dL_law_33 (Or.inr q) (by decide) (k S h.mono)
  obtain ⟨j, hj⟩ : ∃ j : Nat, y.toInt = j := ⟨y.toInt.toNat, by omega⟩
  have hj28 : j < 29 := by omega
  have g1 : ¬ y.toInt < 0 := by omega
  have key : ∀ (off : Int) (tgt : Nat), (#[131, 194, 207, 260, 293, 326, 369, 392, 415, 439, 462, 495, 518, 531, 554, 567, 590, 613, 626, 659, 672, 685, 698, 731, 774, 797, 840, 863, 916] : Array Int)[j]? = some off → (33 : Int) + off = (tgt : Int) → G sc mL_law tgt [some (aE 1), some (aR 0), some (aR 389), some (aI (nI i))] [] (mkL S) Q → G sc mL_law 33 [some (aE 1), some (aR 0), some (aR 389), some (aI (nI i))] [aI y] (mkL S) Q := fun off tgt e1 e2 kk => by
    refine G_tableIn (pc := 33) dL_law_33 g1 q ?_ e2 kk
    rw [hj]
    exact e1
  rcases (show j = 0 ∨ j = 1 ∨ j = 2 ∨ j = 3 ∨ j = 4 ∨ j = 5 ∨ j = 6 ∨ j = 7 ∨ j = 8 ∨ j = 9 ∨ j = 10 ∨ j = 11 ∨ j = 12 ∨ j = 13 ∨ j = 14 ∨ j = 15 ∨ j = 16 ∨ j = 17 ∨ j = 18 ∨ j = 19 ∨ j = 20 ∨ j = 21 ∨ j = 22 ∨ j = 23 ∨ j = 24 ∨ j = 25 ∨ j = 26 ∨ j = 27 ∨ j = 28 by omega) with rfl | rfl | rfl | rfl | rfl | rfl | rfl | rfl | rfl | rfl | rfl | rfl | rfl | rfl | rfl | rfl | rfl | rfl | rfl | rfl | rfl | rfl | rfl | rfl | rfl | rfl | rfl | rfl | rfl
  · exact key 131 164 rfl (by decide) (law_type h hN hi k)
  · exact key 194 227 rfl (by decide) (law_thing h hN hi k)
  · exact key 207 240 rfl (by decide) (law_line h hN hi k)
  · exact key 260 293 rfl (by decide) (law_byteAt h hN hi k)
  · exact key 293 326 rfl (by decide) (law_place h hN hi k)
  · exact key 326 359 rfl (by decide) (law_made h hN hi k)
  · exact key 369 402 rfl (by decide) (law_show h hN hi k)
  · exact key 392 425 rfl (by decide) (law_forget h hN hi k)
  · exact key 415 448 rfl (by decide) (law_fitting h hN hi k)
  · exact key 439 472 rfl (by decide) (law_shortest h hN hi k)
  · exact key 462 495 rfl (by decide) (law_paper h hN hi k)
  · exact key 495 528 rfl (by decide) (law_differs h hN hi k)
  · exact key 518 551 rfl (by decide) (law_settle h hN hi k)
  · exact key 531 564 rfl (by decide) (law_odd h hN hi k)
  · exact key 554 587 rfl (by decide) (law_slips h hN hi k)
  · exact key 567 600 rfl (by decide) (law_state h hN hi k)
  · exact key 590 623 rfl (by decide) (law_doing h hn hN hi k)
  · exact key 613 646 rfl (by decide) (law_back h hN hi k)
  · exact key 626 659 rfl (by decide) (law_end h hN hi k)
  · exact key 659 692 rfl (by decide) (law_otherwise h hN hi k)
  · exact key 672 705 rfl (by decide) (law_keep h hN hi k)
  · exact key 685 718 rfl (by decide) (law_text h hN hi k)
  · exact key 698 731 rfl (by decide) (law_kept h hN hi k)
  · exact key 731 764 rfl (by decide) (law_run h hN hi k)
  · exact key 774 807 rfl (by decide) (law_count h hN hi k)
  · exact key 797 830 rfl (by decide) (law_sheet h hN hi k)
  · exact key 840 873 rfl (by decide) (law_drop h hN hi k)
  · exact key 863 896 rfl (by decide) (law_item h hN hi k)
  · exact key 916 949 rfl (by decide) (law_put h hN hi k)
set_option maxRecDepth 100000 in
set_option maxHeartbeats 4000000 in
theorem law_lp (hN : sc.1 ≤ 3072) (hQ : ∀ S, Q (some (aI (bI true))) (mkL S)) : ∀ (d i n : Nat) (S : ST), sc.1 - i ≤ d → i ≤ 3078 → 6 * n = i → IV S n → G sc mL_law 18 [some (aE 1), some (aR 0), some (aR 389), some (aI (nI i))] [] (mkL S) Q := by
  intro d
  have e6 : (nI sc.1 - nI 6).toInt = (sc.1 : Int) - 6 := by
    have z : (nI 6).toInt = 6 := rfl
    rw [sub_toInt (by rw [z, nIt (by omega)]; omega) (by rw [z, nIt (by omega)]; omega), z, nIt (by omega)]
  induction d with
  | zero =>
    intro i n S h1 h2 h3 h
    refine G_iload_n (pc := 18) dL_law_18 rfl rfl ?_
    refine G_eload_n (pc := 19) dL_law_19 rfl rfl ?_
    refine G_slen (pc := 20) dL_law_20 ?_
    rw [show Int32.ofNat sc.1 = nI sc.1 from rfl]
    refine G_bipush (pc := 21) (v := nI 6) dL_law_21 (by decide) ?_
    refine G_isub (pc := 23) dL_law_23 ?_
    refine T_icmp_gt (pc := 24) (tgt := 1018) dL_law_24 (by decide) (fun c24 => ?_) (fun c24 => absurd c24 (by rw [e6, nIt (by omega)]; omega))
    refine G_iconst (pc := 1018) (v := nI 1) dL_law_1018 (by decide) ?_
    refine L_zret (pc := 1019) dL_law_1019 rfl rfl ?_
    exact hQ S
  | succ d ih =>
    intro i n S h1 h2 h3 h
    refine G_iload_n (pc := 18) dL_law_18 rfl rfl ?_
    refine G_eload_n (pc := 19) dL_law_19 rfl rfl ?_
    refine G_slen (pc := 20) dL_law_20 ?_
    rw [show Int32.ofNat sc.1 = nI sc.1 from rfl]
    refine G_bipush (pc := 21) (v := nI 6) dL_law_21 (by decide) ?_
    refine G_isub (pc := 23) dL_law_23 ?_
    refine T_icmp_gt (pc := 24) (tgt := 1018) dL_law_24 (by decide) (fun c24 => ?_) (fun c24 => ?_)
    · skip
      skip
      refine G_iconst (pc := 1018) (v := nI 1) dL_law_1018 (by decide) ?_
      refine L_zret (pc := 1019) dL_law_1019 rfl rfl ?_
      exact hQ S
    · skip
      rw [e6, nIt (by omega)] at c24
      refine G_eload_n (pc := 27) dL_law_27 rfl rfl ?_
      refine G_iload_n (pc := 28) dL_law_28 rfl rfl ?_
      refine G_sld (pc := 29) dL_law_29 (vp_in_nI (by omega) (by omega)) ?_
      refine G_bipush (pc := 30) (v := nI 31) dL_law_30 (by decide) ?_
      refine G_iand (pc := 32) dL_law_32 ?_
      refine law_sw h (by omega) (by omega) (by omega) (fun S2 hI => ?_)
      refine G_iinc (pc := 1012) dL_law_1012 rfl rfl (by decide) rfl ?_
      refine G_goto (pc := 1015) (tgt := 18) dL_law_1015 (by decide) ?_
      have e : nI i + Int32.ofInt 6 = nI (i + 6) := by rw [show Int32.ofInt 6 = nI 6 from rfl, nI_add]
      rw [e]
      exact ih (i + 6) (n + 1) S2 (by omega) (by omega) (by omega) hI
end IL
