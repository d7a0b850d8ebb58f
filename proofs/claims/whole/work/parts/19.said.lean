/-! what a LINE must be behind its verb -/
theorem pd_map_lt (i : Nat) : pd_map i < 11 := by
  by_cases h : i < 13
  · have : ∀ j ∈ List.range 13, pd_map j < 11 := by decide
    exact this i (List.mem_range.mpr h)
  · unfold pd_map
    rw [List.getD_eq_getElem?_getD, List.getElem?_eq_none (by show 13 ≤ i; omega)]
    decide
def gr_said (cs : List Nat) (i : Nat) : Bool :=
  if pd_map i = 1 then gr_head cs 6 else if pd_map i = 2 then gr_head cs 5
  else if pd_map i = 3 then gr_mem (gr_w cs 1) && gr_type (gr_w cs 2) && gr_eim cs
  else if pd_map i = 4 then gr_mem (gr_w cs 1) && gr_shape (gr_w cs 2) && gr_eim cs
  else if pd_map i = 5 then decide ((gr_cut cs).1 = 2) && gr_pat (gr_w cs 1)
  else if pd_map i = 6 then decide ((gr_cut cs).1 = 2) && gr_pat (gr_w cs 1)
  else if pd_map i = 7 then decide ((gr_cut cs).1 = 3) && gr_pat (gr_w cs 1) && gr_cost (gr_w cs 2)
  else if pd_map i = 8 then decide ((gr_cut cs).1 = 3) && gr_pat (gr_w cs 1) && gr_mem (gr_w cs 2)
  else if pd_map i = 9 then decide ((gr_cut cs).1 = 3) && gr_mem (gr_w cs 1) && gr_type (gr_w cs 2)
  else if pd_map i = 10 then decide ((gr_cut cs).1 = 3) && gr_mem (gr_w cs 1) && gr_shape (gr_w cs 2)
  else decide ((gr_cut cs).1 = 2) && gr_name (gr_w cs 1)
theorem d_p6m2_0 : decode prog_6_method_2_code 0 = .ok (.getstatic 7, 3) := by decide +kernel
theorem d_p6m2_3 : decode prog_6_method_2_code 3 = .ok (.aload_n 1, 1) := by decide +kernel
theorem d_p6m2_4 : decode prog_6_method_2_code 4 = .ok (.invokevirtual 13, 3) := by decide +kernel
theorem d_p6m2_7 : decode prog_6_method_2_code 7 = .ok (.iaload, 1) := by decide +kernel
theorem d_p6m2_8 : decode prog_6_method_2_code 8 = .ok (.tableswitch 308 1 10 #[56, 63, 69, 104, 139, 139, 164, 200, 236, 272], 56) := by decide +kernel
theorem d_p6m2_64 : decode prog_6_method_2_code 64 = .ok (.aload_n 0, 1) := by decide +kernel
theorem d_p6m2_65 : decode prog_6_method_2_code 65 = .ok (.bipush 6, 2) := by decide +kernel
theorem d_p6m2_67 : decode prog_6_method_2_code 67 = .ok (.invokestatic 19, 3) := by decide +kernel
theorem d_p6m2_70 : decode prog_6_method_2_code 70 = .ok (.ireturn, 1) := by decide +kernel
theorem d_p6m2_71 : decode prog_6_method_2_code 71 = .ok (.aload_n 0, 1) := by decide +kernel
theorem d_p6m2_72 : decode prog_6_method_2_code 72 = .ok (.iconst 5, 1) := by decide +kernel
theorem d_p6m2_73 : decode prog_6_method_2_code 73 = .ok (.invokestatic 19, 3) := by decide +kernel
theorem d_p6m2_76 : decode prog_6_method_2_code 76 = .ok (.ireturn, 1) := by decide +kernel
theorem d_p6m2_77 : decode prog_6_method_2_code 77 = .ok (.aload_n 0, 1) := by decide +kernel
theorem d_p6m2_78 : decode prog_6_method_2_code 78 = .ok (.iconst 1, 1) := by decide +kernel
theorem d_p6m2_79 : decode prog_6_method_2_code 79 = .ok (.invokevirtual 25, 3) := by decide +kernel
theorem d_p6m2_82 : decode prog_6_method_2_code 82 = .ok (.invokestatic 31, 3) := by decide +kernel
theorem d_p6m2_85 : decode prog_6_method_2_code 85 = .ok (.ifCond .eq 25, 3) := by decide +kernel
theorem d_p6m2_88 : decode prog_6_method_2_code 88 = .ok (.aload_n 0, 1) := by decide +kernel
theorem d_p6m2_89 : decode prog_6_method_2_code 89 = .ok (.iconst 2, 1) := by decide +kernel
theorem d_p6m2_90 : decode prog_6_method_2_code 90 = .ok (.invokevirtual 25, 3) := by decide +kernel
theorem d_p6m2_93 : decode prog_6_method_2_code 93 = .ok (.invokestatic 35, 3) := by decide +kernel
theorem d_p6m2_96 : decode prog_6_method_2_code 96 = .ok (.ifCond .eq 14, 3) := by decide +kernel
theorem d_p6m2_99 : decode prog_6_method_2_code 99 = .ok (.aload_n 0, 1) := by decide +kernel
theorem d_p6m2_100 : decode prog_6_method_2_code 100 = .ok (.invokestatic 38, 3) := by decide +kernel
theorem d_p6m2_103 : decode prog_6_method_2_code 103 = .ok (.ifCond .eq 7, 3) := by decide +kernel
theorem d_p6m2_106 : decode prog_6_method_2_code 106 = .ok (.iconst 1, 1) := by decide +kernel
theorem d_p6m2_107 : decode prog_6_method_2_code 107 = .ok (.goto 4, 3) := by decide +kernel
theorem d_p6m2_110 : decode prog_6_method_2_code 110 = .ok (.iconst 0, 1) := by decide +kernel
theorem d_p6m2_111 : decode prog_6_method_2_code 111 = .ok (.ireturn, 1) := by decide +kernel
theorem d_p6m2_112 : decode prog_6_method_2_code 112 = .ok (.aload_n 0, 1) := by decide +kernel
theorem d_p6m2_113 : decode prog_6_method_2_code 113 = .ok (.iconst 1, 1) := by decide +kernel
theorem d_p6m2_114 : decode prog_6_method_2_code 114 = .ok (.invokevirtual 25, 3) := by decide +kernel
theorem d_p6m2_117 : decode prog_6_method_2_code 117 = .ok (.invokestatic 31, 3) := by decide +kernel
theorem d_p6m2_120 : decode prog_6_method_2_code 120 = .ok (.ifCond .eq 25, 3) := by decide +kernel
theorem d_p6m2_123 : decode prog_6_method_2_code 123 = .ok (.aload_n 0, 1) := by decide +kernel
theorem d_p6m2_124 : decode prog_6_method_2_code 124 = .ok (.iconst 2, 1) := by decide +kernel
theorem d_p6m2_125 : decode prog_6_method_2_code 125 = .ok (.invokevirtual 25, 3) := by decide +kernel
theorem d_p6m2_128 : decode prog_6_method_2_code 128 = .ok (.invokestatic 42, 3) := by decide +kernel
theorem d_p6m2_131 : decode prog_6_method_2_code 131 = .ok (.ifCond .eq 14, 3) := by decide +kernel
theorem d_p6m2_134 : decode prog_6_method_2_code 134 = .ok (.aload_n 0, 1) := by decide +kernel
theorem d_p6m2_135 : decode prog_6_method_2_code 135 = .ok (.invokestatic 38, 3) := by decide +kernel
theorem d_p6m2_138 : decode prog_6_method_2_code 138 = .ok (.ifCond .eq 7, 3) := by decide +kernel
theorem d_p6m2_141 : decode prog_6_method_2_code 141 = .ok (.iconst 1, 1) := by decide +kernel
theorem d_p6m2_142 : decode prog_6_method_2_code 142 = .ok (.goto 4, 3) := by decide +kernel
theorem d_p6m2_145 : decode prog_6_method_2_code 145 = .ok (.iconst 0, 1) := by decide +kernel
theorem d_p6m2_146 : decode prog_6_method_2_code 146 = .ok (.ireturn, 1) := by decide +kernel
theorem d_p6m2_147 : decode prog_6_method_2_code 147 = .ok (.aload_n 0, 1) := by decide +kernel
theorem d_p6m2_148 : decode prog_6_method_2_code 148 = .ok (.getfield 45, 3) := by decide +kernel
theorem d_p6m2_151 : decode prog_6_method_2_code 151 = .ok (.iconst 2, 1) := by decide +kernel
theorem d_p6m2_152 : decode prog_6_method_2_code 152 = .ok (.if_icmp .ne 18, 3) := by decide +kernel
theorem d_p6m2_155 : decode prog_6_method_2_code 155 = .ok (.aload_n 0, 1) := by decide +kernel
theorem d_p6m2_156 : decode prog_6_method_2_code 156 = .ok (.iconst 1, 1) := by decide +kernel
theorem d_p6m2_157 : decode prog_6_method_2_code 157 = .ok (.invokevirtual 25, 3) := by decide +kernel
theorem d_p6m2_160 : decode prog_6_method_2_code 160 = .ok (.invokestatic 49, 3) := by decide +kernel
theorem d_p6m2_163 : decode prog_6_method_2_code 163 = .ok (.ifCond .eq 7, 3) := by decide +kernel
theorem d_p6m2_166 : decode prog_6_method_2_code 166 = .ok (.iconst 1, 1) := by decide +kernel
theorem d_p6m2_167 : decode prog_6_method_2_code 167 = .ok (.goto 4, 3) := by decide +kernel
theorem d_p6m2_170 : decode prog_6_method_2_code 170 = .ok (.iconst 0, 1) := by decide +kernel
theorem d_p6m2_171 : decode prog_6_method_2_code 171 = .ok (.ireturn, 1) := by decide +kernel
theorem d_p6m2_172 : decode prog_6_method_2_code 172 = .ok (.aload_n 0, 1) := by decide +kernel
theorem d_p6m2_173 : decode prog_6_method_2_code 173 = .ok (.getfield 45, 3) := by decide +kernel
theorem d_p6m2_176 : decode prog_6_method_2_code 176 = .ok (.iconst 3, 1) := by decide +kernel
theorem d_p6m2_177 : decode prog_6_method_2_code 177 = .ok (.if_icmp .ne 29, 3) := by decide +kernel
theorem d_p6m2_180 : decode prog_6_method_2_code 180 = .ok (.aload_n 0, 1) := by decide +kernel
theorem d_p6m2_181 : decode prog_6_method_2_code 181 = .ok (.iconst 1, 1) := by decide +kernel
theorem d_p6m2_182 : decode prog_6_method_2_code 182 = .ok (.invokevirtual 25, 3) := by decide +kernel
theorem d_p6m2_185 : decode prog_6_method_2_code 185 = .ok (.invokestatic 49, 3) := by decide +kernel
theorem d_p6m2_188 : decode prog_6_method_2_code 188 = .ok (.ifCond .eq 18, 3) := by decide +kernel
theorem d_p6m2_191 : decode prog_6_method_2_code 191 = .ok (.aload_n 0, 1) := by decide +kernel
theorem d_p6m2_192 : decode prog_6_method_2_code 192 = .ok (.iconst 2, 1) := by decide +kernel
theorem d_p6m2_193 : decode prog_6_method_2_code 193 = .ok (.invokevirtual 25, 3) := by decide +kernel
theorem d_p6m2_196 : decode prog_6_method_2_code 196 = .ok (.invokestatic 52, 3) := by decide +kernel
theorem d_p6m2_199 : decode prog_6_method_2_code 199 = .ok (.ifCond .eq 7, 3) := by decide +kernel
theorem d_p6m2_202 : decode prog_6_method_2_code 202 = .ok (.iconst 1, 1) := by decide +kernel
theorem d_p6m2_203 : decode prog_6_method_2_code 203 = .ok (.goto 4, 3) := by decide +kernel
theorem d_p6m2_206 : decode prog_6_method_2_code 206 = .ok (.iconst 0, 1) := by decide +kernel
theorem d_p6m2_207 : decode prog_6_method_2_code 207 = .ok (.ireturn, 1) := by decide +kernel
theorem d_p6m2_208 : decode prog_6_method_2_code 208 = .ok (.aload_n 0, 1) := by decide +kernel
theorem d_p6m2_209 : decode prog_6_method_2_code 209 = .ok (.getfield 45, 3) := by decide +kernel
theorem d_p6m2_212 : decode prog_6_method_2_code 212 = .ok (.iconst 3, 1) := by decide +kernel
theorem d_p6m2_213 : decode prog_6_method_2_code 213 = .ok (.if_icmp .ne 29, 3) := by decide +kernel
theorem d_p6m2_216 : decode prog_6_method_2_code 216 = .ok (.aload_n 0, 1) := by decide +kernel
theorem d_p6m2_217 : decode prog_6_method_2_code 217 = .ok (.iconst 1, 1) := by decide +kernel
theorem d_p6m2_218 : decode prog_6_method_2_code 218 = .ok (.invokevirtual 25, 3) := by decide +kernel
theorem d_p6m2_221 : decode prog_6_method_2_code 221 = .ok (.invokestatic 49, 3) := by decide +kernel
theorem d_p6m2_224 : decode prog_6_method_2_code 224 = .ok (.ifCond .eq 18, 3) := by decide +kernel
theorem d_p6m2_227 : decode prog_6_method_2_code 227 = .ok (.aload_n 0, 1) := by decide +kernel
theorem d_p6m2_228 : decode prog_6_method_2_code 228 = .ok (.iconst 2, 1) := by decide +kernel
theorem d_p6m2_229 : decode prog_6_method_2_code 229 = .ok (.invokevirtual 25, 3) := by decide +kernel
theorem d_p6m2_232 : decode prog_6_method_2_code 232 = .ok (.invokestatic 31, 3) := by decide +kernel
theorem d_p6m2_235 : decode prog_6_method_2_code 235 = .ok (.ifCond .eq 7, 3) := by decide +kernel
theorem d_p6m2_238 : decode prog_6_method_2_code 238 = .ok (.iconst 1, 1) := by decide +kernel
theorem d_p6m2_239 : decode prog_6_method_2_code 239 = .ok (.goto 4, 3) := by decide +kernel
theorem d_p6m2_242 : decode prog_6_method_2_code 242 = .ok (.iconst 0, 1) := by decide +kernel
theorem d_p6m2_243 : decode prog_6_method_2_code 243 = .ok (.ireturn, 1) := by decide +kernel
theorem d_p6m2_244 : decode prog_6_method_2_code 244 = .ok (.aload_n 0, 1) := by decide +kernel
theorem d_p6m2_245 : decode prog_6_method_2_code 245 = .ok (.getfield 45, 3) := by decide +kernel
theorem d_p6m2_248 : decode prog_6_method_2_code 248 = .ok (.iconst 3, 1) := by decide +kernel
theorem d_p6m2_249 : decode prog_6_method_2_code 249 = .ok (.if_icmp .ne 29, 3) := by decide +kernel
theorem d_p6m2_252 : decode prog_6_method_2_code 252 = .ok (.aload_n 0, 1) := by decide +kernel
theorem d_p6m2_253 : decode prog_6_method_2_code 253 = .ok (.iconst 1, 1) := by decide +kernel
theorem d_p6m2_254 : decode prog_6_method_2_code 254 = .ok (.invokevirtual 25, 3) := by decide +kernel
theorem d_p6m2_257 : decode prog_6_method_2_code 257 = .ok (.invokestatic 31, 3) := by decide +kernel
theorem d_p6m2_260 : decode prog_6_method_2_code 260 = .ok (.ifCond .eq 18, 3) := by decide +kernel
theorem d_p6m2_263 : decode prog_6_method_2_code 263 = .ok (.aload_n 0, 1) := by decide +kernel
theorem d_p6m2_264 : decode prog_6_method_2_code 264 = .ok (.iconst 2, 1) := by decide +kernel
theorem d_p6m2_265 : decode prog_6_method_2_code 265 = .ok (.invokevirtual 25, 3) := by decide +kernel
theorem d_p6m2_268 : decode prog_6_method_2_code 268 = .ok (.invokestatic 35, 3) := by decide +kernel
theorem d_p6m2_271 : decode prog_6_method_2_code 271 = .ok (.ifCond .eq 7, 3) := by decide +kernel
theorem d_p6m2_274 : decode prog_6_method_2_code 274 = .ok (.iconst 1, 1) := by decide +kernel
theorem d_p6m2_275 : decode prog_6_method_2_code 275 = .ok (.goto 4, 3) := by decide +kernel
theorem d_p6m2_278 : decode prog_6_method_2_code 278 = .ok (.iconst 0, 1) := by decide +kernel
theorem d_p6m2_279 : decode prog_6_method_2_code 279 = .ok (.ireturn, 1) := by decide +kernel
theorem d_p6m2_280 : decode prog_6_method_2_code 280 = .ok (.aload_n 0, 1) := by decide +kernel
theorem d_p6m2_281 : decode prog_6_method_2_code 281 = .ok (.getfield 45, 3) := by decide +kernel
theorem d_p6m2_284 : decode prog_6_method_2_code 284 = .ok (.iconst 3, 1) := by decide +kernel
theorem d_p6m2_285 : decode prog_6_method_2_code 285 = .ok (.if_icmp .ne 29, 3) := by decide +kernel
theorem d_p6m2_288 : decode prog_6_method_2_code 288 = .ok (.aload_n 0, 1) := by decide +kernel
theorem d_p6m2_289 : decode prog_6_method_2_code 289 = .ok (.iconst 1, 1) := by decide +kernel
theorem d_p6m2_290 : decode prog_6_method_2_code 290 = .ok (.invokevirtual 25, 3) := by decide +kernel
theorem d_p6m2_293 : decode prog_6_method_2_code 293 = .ok (.invokestatic 31, 3) := by decide +kernel
theorem d_p6m2_296 : decode prog_6_method_2_code 296 = .ok (.ifCond .eq 18, 3) := by decide +kernel
theorem d_p6m2_299 : decode prog_6_method_2_code 299 = .ok (.aload_n 0, 1) := by decide +kernel
theorem d_p6m2_300 : decode prog_6_method_2_code 300 = .ok (.iconst 2, 1) := by decide +kernel
theorem d_p6m2_301 : decode prog_6_method_2_code 301 = .ok (.invokevirtual 25, 3) := by decide +kernel
theorem d_p6m2_304 : decode prog_6_method_2_code 304 = .ok (.invokestatic 42, 3) := by decide +kernel
theorem d_p6m2_307 : decode prog_6_method_2_code 307 = .ok (.ifCond .eq 7, 3) := by decide +kernel
theorem d_p6m2_310 : decode prog_6_method_2_code 310 = .ok (.iconst 1, 1) := by decide +kernel
theorem d_p6m2_311 : decode prog_6_method_2_code 311 = .ok (.goto 4, 3) := by decide +kernel
theorem d_p6m2_314 : decode prog_6_method_2_code 314 = .ok (.iconst 0, 1) := by decide +kernel
theorem d_p6m2_315 : decode prog_6_method_2_code 315 = .ok (.ireturn, 1) := by decide +kernel
theorem d_p6m2_316 : decode prog_6_method_2_code 316 = .ok (.aload_n 0, 1) := by decide +kernel
theorem d_p6m2_317 : decode prog_6_method_2_code 317 = .ok (.getfield 45, 3) := by decide +kernel
theorem d_p6m2_320 : decode prog_6_method_2_code 320 = .ok (.iconst 2, 1) := by decide +kernel
theorem d_p6m2_321 : decode prog_6_method_2_code 321 = .ok (.if_icmp .ne 18, 3) := by decide +kernel
theorem d_p6m2_324 : decode prog_6_method_2_code 324 = .ok (.aload_n 0, 1) := by decide +kernel
theorem d_p6m2_325 : decode prog_6_method_2_code 325 = .ok (.iconst 1, 1) := by decide +kernel
theorem d_p6m2_326 : decode prog_6_method_2_code 326 = .ok (.invokevirtual 25, 3) := by decide +kernel
theorem d_p6m2_329 : decode prog_6_method_2_code 329 = .ok (.invokestatic 55, 3) := by decide +kernel
theorem d_p6m2_332 : decode prog_6_method_2_code 332 = .ok (.ifCond .eq 7, 3) := by decide +kernel
theorem d_p6m2_335 : decode prog_6_method_2_code 335 = .ok (.iconst 1, 1) := by decide +kernel
theorem d_p6m2_336 : decode prog_6_method_2_code 336 = .ok (.goto 4, 3) := by decide +kernel
theorem d_p6m2_339 : decode prog_6_method_2_code 339 = .ok (.iconst 0, 1) := by decide +kernel
theorem d_p6m2_340 : decode prog_6_method_2_code 340 = .ok (.ireturn, 1) := by decide +kernel
abbrev y_Grammar_isAsSaid : MethodName := ⟨"PolicyDesk$Grammar", "isAsSaid", "(LPolicyDesk$Line;LPolicyDesk$Verb;)Z"⟩
theorem ok_Grammar_isAsSaid : pd_ok y_Grammar_isAsSaid prog_6_method_2_code 2 (some .boolean) 2 := ⟨mT_622, mT_25, by decide, by decide +kernel⟩
abbrev rm_Grammar_isAsSaid : Room := { frames := 9, cells := 130, slots := 4160, locals := 217 }
set_option maxHeartbeats 4000000 in
set_option maxRecDepth 100000 in
theorem c_Grammar_isAsSaid (l : Launch) (G : pd_G) (h : pd_H) {x : Nat} {cs : List Nat} {i : Nat} (hL : pd_Ln h x cs) (hi : i < 13) : pd_M l y_Grammar_isAsSaid prog_6_method_2_code 2 (some .boolean) rm_Grammar_isAsSaid G h [.ref x, .ref (G.2.2.2 (10 + i))] pd_vb (fun r h1 => r = gr_said cs i ∧ pd_kx [] h h1) := by
  refine pd_M.of (by decide) (Nat.le_of_ble_eq_true rfl) ?_
  intro p e s m below meth c X hmn w ls hl
  have hx := X.1
  have hb := X.2.1
  have hl : lv_has ls 2 [(0, .ref x), (1, .ref (G.2.2.2 (10 + i)))] := hl
  obtain ⟨a, st, fA, hxa, hst, hnu, hS⟩ := id hL
  have hct := gr_cut_ok cs
  have hct6 := hct.1
  obtain ⟨v1, f1, hv1, hv2, hvf, hvc, hvl⟩ := id hS
  have hmp := pd_map_lt i
  refine pd_gets X w (List.mem_of_getElem? (i := 3) rfl) mT_623 d_p6m2_0 ?_
  have f1 := pd_swm X w
  refine lv_aload_n hx hb d_p6m2_3 rfl (lv_at hl 1 rfl) ?_
  refine pd_cord (i := i) (rest := [.ref (G.2.2.2 2)]) X w (by omega) (c_Enum_ordinal l G h (i := i) (by omega)) ok_Enum_ordinal rfl ⟨mT_629, X.2.2.2.2.2.1 _ mT_628, mT_626⟩ mT_625 ⟨by decide, by decide⟩ hl.1 (Nat.le_of_ble_eq_true rfl) d_p6m2_4 ⟨by decide, by decide⟩ (fun r2 h3 H locs hp4 w => ?_)
  refine W.widen (k := 0) (n := 0) (by decide) (by decide) ?_
  obtain ⟨rfl, rfl⟩ := hp4
  refine pd_iald X w f1 (by omega) (by omega) d_p6m2_7 ?_
  refine pd_top (v' := .int (nI (pd_map i))) rfl ?_
  rcases (show pd_map i = 1 ∨ pd_map i = 2 ∨ pd_map i = 3 ∨ pd_map i = 4 ∨ pd_map i = 5 ∨ pd_map i = 6 ∨ pd_map i = 7 ∨ pd_map i = 8 ∨ pd_map i = 9 ∨ pd_map i = 10 ∨ pd_map i < 1 ∨ 10 < pd_map i by omega) with z5 | z5 | z5 | z5 | z5 | z5 | z5 | z5 | z5 | z5 | z5 | z5
  · -- case 1: 64
    refine lv_tableIn (tgt := 64) hx hb d_p6m2_8 (by rw [z5]; decide) (by rw [z5]; decide) (by rw [z5]; rfl) (by decide) ?_
    refine lv_aload_n hx hb d_p6m2_64 rfl (lv_at hl 0 rfl) ?_
    refine lv_bipush (v := nI 6) hx hb d_p6m2_65 (by decide) ?_
    refine pd_cS (As := [.ref x, .int (nI 6)]) (rest := []) X w (c_Grammar_isHeading l G h (by assumption) (by omega)) ok_Grammar_isHeading mT_632 mT_631 ⟨by decide, by decide⟩ rfl hl.1 rfl (Nat.le_of_ble_eq_true rfl) d_p6m2_67 ⟨by decide, by decide⟩ (fun r6 h7 H locs hp8 w => ?_)
    refine W.widen (k := 10) (n := 320) (by decide) (by decide) ?_
    obtain ⟨e9, k10⟩ := hp8
    have f11 := k10 _ _ hxa List.not_mem_nil
    have f12 := k10 _ _ hv1 List.not_mem_nil
    have f13 := k10 _ _ hst List.not_mem_nil
    have f14 := k10 _ _ hv2 List.not_mem_nil
    have f15 := k10 _ _ f1 List.not_mem_nil
    have f16 := hL.kx k10 List.not_mem_nil
    have f17 := hS.kx k10 List.not_mem_nil
    exact pd_zret (v := r6) X w ⟨by simp [gr_said, z5, e9], k10⟩ (by decide) (by decide) d_p6m2_70
  · -- case 2: 71
    refine lv_tableIn (tgt := 71) hx hb d_p6m2_8 (by rw [z5]; decide) (by rw [z5]; decide) (by rw [z5]; rfl) (by decide) ?_
    refine lv_aload_n hx hb d_p6m2_71 rfl (lv_at hl 0 rfl) ?_
    refine lv_iconst (v := nI 5) hx hb d_p6m2_72 (by decide) ?_
    refine pd_cS (As := [.ref x, .int (nI 5)]) (rest := []) X w (c_Grammar_isHeading l G h (by assumption) (by omega)) ok_Grammar_isHeading mT_632 mT_631 ⟨by decide, by decide⟩ rfl hl.1 rfl (Nat.le_of_ble_eq_true rfl) d_p6m2_73 ⟨by decide, by decide⟩ (fun r18 h19 H locs hp20 w => ?_)
    refine W.widen (k := 10) (n := 320) (by decide) (by decide) ?_
    obtain ⟨e21, k22⟩ := hp20
    have f23 := k22 _ _ hxa List.not_mem_nil
    have f24 := k22 _ _ hv1 List.not_mem_nil
    have f25 := k22 _ _ hst List.not_mem_nil
    have f26 := k22 _ _ hv2 List.not_mem_nil
    have f27 := k22 _ _ f1 List.not_mem_nil
    have f28 := hL.kx k22 List.not_mem_nil
    have f29 := hS.kx k22 List.not_mem_nil
    exact pd_zret (v := r18) X w ⟨by simp [gr_said, z5, e21], k22⟩ (by decide) (by decide) d_p6m2_76
  · -- case 3: 77
    refine lv_tableIn (tgt := 77) hx hb d_p6m2_8 (by rw [z5]; decide) (by rw [z5]; decide) (by rw [z5]; rfl) (by decide) ?_
    refine lv_aload_n hx hb d_p6m2_77 rfl (lv_at hl 0 rfl) ?_
    refine lv_iconst (v := nI 1) hx hb d_p6m2_78 (by decide) ?_
    refine pd_cV (a := x) (As := [.int (nI 1)]) (rest := []) X w hxa rfl (c_Line_word l G h (by assumption) (by omega)) ok_Line_word ⟨mT_574, mT_575⟩ mT_634 ⟨by decide, by decide⟩ rfl hl.1 rfl (Nat.le_of_ble_eq_true rfl) d_p6m2_79 ⟨by decide, by decide⟩ (fun r30 h31 H locs hp32 w => ?_)
    refine W.widen (k := 2) (n := 64) (by decide) (by decide) ?_
    obtain ⟨k33, ds34, e35, f36⟩ := hp32
    have f44 := k33 _ _ hxa List.not_mem_nil
    have f45 := k33 _ _ hv1 List.not_mem_nil
    have f46 := k33 _ _ hst List.not_mem_nil
    have f47 := k33 _ _ hv2 List.not_mem_nil
    have f48 := k33 _ _ f1 List.not_mem_nil
    have f49 := hL.kx k33 List.not_mem_nil
    have f50 := hS.kx k33 List.not_mem_nil
    obtain ⟨v37, g38, f39, f40, gf41, gc42, gl43⟩ := id f36
    refine pd_cS (As := [.ref r30]) (rest := []) X w (c_Grammar_isMember l G h31 (by assumption)) ok_Grammar_isMember mT_646 mT_645 ⟨by decide, by decide⟩ rfl hl.1 rfl (Nat.le_of_ble_eq_true rfl) d_p6m2_82 ⟨by decide, by decide⟩ (fun r51 h52 H locs hp53 w => ?_)
    refine W.widen (k := 6) (n := 192) (by decide) (by decide) ?_
    obtain ⟨e54, k55⟩ := hp53
    have f56 := k55 _ _ f44 List.not_mem_nil
    have f57 := k55 _ _ f45 List.not_mem_nil
    have f58 := k55 _ _ f39 List.not_mem_nil
    have f59 := k55 _ _ f46 List.not_mem_nil
    have f60 := k55 _ _ f47 List.not_mem_nil
    have f61 := k55 _ _ f48 List.not_mem_nil
    have f62 := k55 _ _ f40 List.not_mem_nil
    have f63 := f49.kx k55 List.not_mem_nil
    have f64 := f50.kx k55 List.not_mem_nil
    have f65 := f36.kx k55 List.not_mem_nil
    refine pd_beq (tgt := 110) hx hb d_p6m2_85 (by decide) (fun q66 => ?_) (fun q66 => ?_)
    · -- taken: 110
      refine lv_iconst (v := nI 0) hx hb d_p6m2_110 (by decide) ?_
      simp only [e54, e35] at q66
      refine W.eq (g2 := F0 m 111 ls [.int (pd_b false)]) rfl ?_
      exact pd_zret (v := false) X w ⟨by simp [gr_said, z5, q66], pd_kx.tr (k33) (k55)⟩ (by decide) (by decide) d_p6m2_111
    · -- not taken: 88
      refine lv_aload_n hx hb d_p6m2_88 rfl (lv_at hl 0 rfl) ?_
      refine lv_iconst (v := nI 2) hx hb d_p6m2_89 (by decide) ?_
      refine pd_cV (a := x) (As := [.int (nI 2)]) (rest := []) X w f56 rfl (c_Line_word l G h52 (by assumption) (by omega)) ok_Line_word ⟨mT_574, mT_575⟩ mT_634 ⟨by decide, by decide⟩ rfl hl.1 rfl (Nat.le_of_ble_eq_true rfl) d_p6m2_90 ⟨by decide, by decide⟩ (fun r67 h68 H locs hp69 w => ?_)
      refine W.widen (k := 8) (n := 256) (by decide) (by decide) ?_
      obtain ⟨k70, ds71, e72, f73⟩ := hp69
      have f81 := k70 _ _ f56 List.not_mem_nil
      have f82 := k70 _ _ f57 List.not_mem_nil
      have f83 := k70 _ _ f58 List.not_mem_nil
      have f84 := k70 _ _ f59 List.not_mem_nil
      have f85 := k70 _ _ f60 List.not_mem_nil
      have f86 := k70 _ _ f61 List.not_mem_nil
      have f87 := k70 _ _ f62 List.not_mem_nil
      have f88 := f63.kx k70 List.not_mem_nil
      have f89 := f64.kx k70 List.not_mem_nil
      have f90 := f65.kx k70 List.not_mem_nil
      obtain ⟨v74, g75, f76, f77, gf78, gc79, gl80⟩ := id f73
      refine pd_cS (As := [.ref r67]) (rest := []) X w (c_Grammar_isType l G h68 (by assumption)) ok_Grammar_isType mT_718 mT_717 ⟨by decide, by decide⟩ rfl hl.1 rfl (Nat.le_of_ble_eq_true rfl) d_p6m2_93 ⟨by decide, by decide⟩ (fun r91 h92 H locs hp93 w => ?_)
      refine W.widen (k := 10) (n := 320) (by decide) (by decide) ?_
      obtain ⟨e94, k95⟩ := hp93
      have f96 := k95 _ _ f81 List.not_mem_nil
      have f97 := k95 _ _ f82 List.not_mem_nil
      have f98 := k95 _ _ f83 List.not_mem_nil
      have f99 := k95 _ _ f76 List.not_mem_nil
      have f100 := k95 _ _ f84 List.not_mem_nil
      have f101 := k95 _ _ f85 List.not_mem_nil
      have f102 := k95 _ _ f86 List.not_mem_nil
      have f103 := k95 _ _ f87 List.not_mem_nil
      have f104 := k95 _ _ f77 List.not_mem_nil
      have f105 := f88.kx k95 List.not_mem_nil
      have f106 := f89.kx k95 List.not_mem_nil
      have f107 := f90.kx k95 List.not_mem_nil
      have f108 := f73.kx k95 List.not_mem_nil
      refine pd_beq (tgt := 110) hx hb d_p6m2_96 (by decide) (fun q109 => ?_) (fun q109 => ?_)
      · -- taken: 110
        refine lv_iconst (v := nI 0) hx hb d_p6m2_110 (by decide) ?_
        simp only [e54, e35, e72] at q66
        simp only [e94, e35, e72] at q109
        refine W.eq (g2 := F0 m 111 ls [.int (pd_b false)]) rfl ?_
        exact pd_zret (v := false) X w ⟨by simp [gr_said, z5, q66, q109], pd_kx.tr (pd_kx.tr (pd_kx.tr (k33) (k55)) (k70)) (k95)⟩ (by decide) (by decide) d_p6m2_111
      · -- not taken: 99
        refine lv_aload_n hx hb d_p6m2_99 rfl (lv_at hl 0 rfl) ?_
        refine pd_cS (As := [.ref x]) (rest := []) X w (c_Grammar_endsInMarks l G h92 (by assumption)) ok_Grammar_endsInMarks mT_728 mT_727 ⟨by decide, by decide⟩ rfl hl.1 rfl (Nat.le_of_ble_eq_true rfl) d_p6m2_100 ⟨by decide, by decide⟩ (fun r110 h111 H locs hp112 w => ?_)
        refine W.widen (k := 12) (n := 384) (by decide) (by decide) ?_
        obtain ⟨e113, k114⟩ := hp112
        have f115 := k114 _ _ f96 List.not_mem_nil
        have f116 := k114 _ _ f97 List.not_mem_nil
        have f117 := k114 _ _ f98 List.not_mem_nil
        have f118 := k114 _ _ f99 List.not_mem_nil
        have f119 := k114 _ _ f100 List.not_mem_nil
        have f120 := k114 _ _ f101 List.not_mem_nil
        have f121 := k114 _ _ f102 List.not_mem_nil
        have f122 := k114 _ _ f103 List.not_mem_nil
        have f123 := k114 _ _ f104 List.not_mem_nil
        have f124 := f105.kx k114 List.not_mem_nil
        have f125 := f106.kx k114 List.not_mem_nil
        have f126 := f107.kx k114 List.not_mem_nil
        have f127 := f108.kx k114 List.not_mem_nil
        refine pd_beq (tgt := 110) hx hb d_p6m2_103 (by decide) (fun q128 => ?_) (fun q128 => ?_)
        · -- taken: 110
          refine lv_iconst (v := nI 0) hx hb d_p6m2_110 (by decide) ?_
          simp only [e54, e35, e72] at q66
          simp only [e94, e35, e72] at q109
          simp only [e113, e35, e72] at q128
          refine W.eq (g2 := F0 m 111 ls [.int (pd_b false)]) rfl ?_
          exact pd_zret (v := false) X w ⟨by simp [gr_said, z5, q66, q109, q128], pd_kx.tr (pd_kx.tr (pd_kx.tr (pd_kx.tr (k33) (k55)) (k70)) (k95)) (k114)⟩ (by decide) (by decide) d_p6m2_111
        · -- not taken: 106
          refine lv_iconst (v := nI 1) hx hb d_p6m2_106 (by decide) ?_
          refine lv_goto (tgt := 111) hx hb d_p6m2_107 (by decide) ?_
          simp only [e54, e35, e72] at q66
          simp only [e94, e35, e72] at q109
          simp only [e113, e35, e72] at q128
          refine W.eq (g2 := F0 m 111 ls [.int (pd_b true)]) rfl ?_
          exact pd_zret (v := true) X w ⟨by simp [gr_said, z5, q66, q109, q128], pd_kx.tr (pd_kx.tr (pd_kx.tr (pd_kx.tr (k33) (k55)) (k70)) (k95)) (k114)⟩ (by decide) (by decide) d_p6m2_111
  · -- case 4: 112
    refine lv_tableIn (tgt := 112) hx hb d_p6m2_8 (by rw [z5]; decide) (by rw [z5]; decide) (by rw [z5]; rfl) (by decide) ?_
    refine lv_aload_n hx hb d_p6m2_112 rfl (lv_at hl 0 rfl) ?_
    refine lv_iconst (v := nI 1) hx hb d_p6m2_113 (by decide) ?_
    refine pd_cV (a := x) (As := [.int (nI 1)]) (rest := []) X w hxa rfl (c_Line_word l G h (by assumption) (by omega)) ok_Line_word ⟨mT_574, mT_575⟩ mT_634 ⟨by decide, by decide⟩ rfl hl.1 rfl (Nat.le_of_ble_eq_true rfl) d_p6m2_114 ⟨by decide, by decide⟩ (fun r129 h130 H locs hp131 w => ?_)
    refine W.widen (k := 2) (n := 64) (by decide) (by decide) ?_
    obtain ⟨k132, ds133, e134, f135⟩ := hp131
    have f143 := k132 _ _ hxa List.not_mem_nil
    have f144 := k132 _ _ hv1 List.not_mem_nil
    have f145 := k132 _ _ hst List.not_mem_nil
    have f146 := k132 _ _ hv2 List.not_mem_nil
    have f147 := k132 _ _ f1 List.not_mem_nil
    have f148 := hL.kx k132 List.not_mem_nil
    have f149 := hS.kx k132 List.not_mem_nil
    obtain ⟨v136, g137, f138, f139, gf140, gc141, gl142⟩ := id f135
    refine pd_cS (As := [.ref r129]) (rest := []) X w (c_Grammar_isMember l G h130 (by assumption)) ok_Grammar_isMember mT_646 mT_645 ⟨by decide, by decide⟩ rfl hl.1 rfl (Nat.le_of_ble_eq_true rfl) d_p6m2_117 ⟨by decide, by decide⟩ (fun r150 h151 H locs hp152 w => ?_)
    refine W.widen (k := 6) (n := 192) (by decide) (by decide) ?_
    obtain ⟨e153, k154⟩ := hp152
    have f155 := k154 _ _ f143 List.not_mem_nil
    have f156 := k154 _ _ f144 List.not_mem_nil
    have f157 := k154 _ _ f138 List.not_mem_nil
    have f158 := k154 _ _ f145 List.not_mem_nil
    have f159 := k154 _ _ f146 List.not_mem_nil
    have f160 := k154 _ _ f147 List.not_mem_nil
    have f161 := k154 _ _ f139 List.not_mem_nil
    have f162 := f148.kx k154 List.not_mem_nil
    have f163 := f149.kx k154 List.not_mem_nil
    have f164 := f135.kx k154 List.not_mem_nil
    refine pd_beq (tgt := 145) hx hb d_p6m2_120 (by decide) (fun q165 => ?_) (fun q165 => ?_)
    · -- taken: 145
      refine lv_iconst (v := nI 0) hx hb d_p6m2_145 (by decide) ?_
      simp only [e153, e134] at q165
      refine W.eq (g2 := F0 m 146 ls [.int (pd_b false)]) rfl ?_
      exact pd_zret (v := false) X w ⟨by simp [gr_said, z5, q165], pd_kx.tr (k132) (k154)⟩ (by decide) (by decide) d_p6m2_146
    · -- not taken: 123
      refine lv_aload_n hx hb d_p6m2_123 rfl (lv_at hl 0 rfl) ?_
      refine lv_iconst (v := nI 2) hx hb d_p6m2_124 (by decide) ?_
      refine pd_cV (a := x) (As := [.int (nI 2)]) (rest := []) X w f155 rfl (c_Line_word l G h151 (by assumption) (by omega)) ok_Line_word ⟨mT_574, mT_575⟩ mT_634 ⟨by decide, by decide⟩ rfl hl.1 rfl (Nat.le_of_ble_eq_true rfl) d_p6m2_125 ⟨by decide, by decide⟩ (fun r166 h167 H locs hp168 w => ?_)
      refine W.widen (k := 8) (n := 256) (by decide) (by decide) ?_
      obtain ⟨k169, ds170, e171, f172⟩ := hp168
      have f180 := k169 _ _ f155 List.not_mem_nil
      have f181 := k169 _ _ f156 List.not_mem_nil
      have f182 := k169 _ _ f157 List.not_mem_nil
      have f183 := k169 _ _ f158 List.not_mem_nil
      have f184 := k169 _ _ f159 List.not_mem_nil
      have f185 := k169 _ _ f160 List.not_mem_nil
      have f186 := k169 _ _ f161 List.not_mem_nil
      have f187 := f162.kx k169 List.not_mem_nil
      have f188 := f163.kx k169 List.not_mem_nil
      have f189 := f164.kx k169 List.not_mem_nil
      obtain ⟨v173, g174, f175, f176, gf177, gc178, gl179⟩ := id f172
      refine pd_cS (As := [.ref r166]) (rest := []) X w (c_Grammar_isShape l G h167 (by assumption)) ok_Grammar_isShape mT_738 mT_737 ⟨by decide, by decide⟩ rfl hl.1 rfl (Nat.le_of_ble_eq_true rfl) d_p6m2_128 ⟨by decide, by decide⟩ (fun r190 h191 H locs hp192 w => ?_)
      refine W.widen (k := 128) (n := 4096) (by decide) (by decide) ?_
      obtain ⟨e193, k194⟩ := hp192
      have f195 := k194 _ _ f180 List.not_mem_nil
      have f196 := k194 _ _ f181 List.not_mem_nil
      have f197 := k194 _ _ f182 List.not_mem_nil
      have f198 := k194 _ _ f175 List.not_mem_nil
      have f199 := k194 _ _ f183 List.not_mem_nil
      have f200 := k194 _ _ f184 List.not_mem_nil
      have f201 := k194 _ _ f185 List.not_mem_nil
      have f202 := k194 _ _ f186 List.not_mem_nil
      have f203 := k194 _ _ f176 List.not_mem_nil
      have f204 := f187.kx k194 List.not_mem_nil
      have f205 := f188.kx k194 List.not_mem_nil
      have f206 := f189.kx k194 List.not_mem_nil
      have f207 := f172.kx k194 List.not_mem_nil
      refine pd_beq (tgt := 145) hx hb d_p6m2_131 (by decide) (fun q208 => ?_) (fun q208 => ?_)
      · -- taken: 145
        refine lv_iconst (v := nI 0) hx hb d_p6m2_145 (by decide) ?_
        simp only [e153, e134, e171] at q165
        simp only [e193, e134, e171] at q208
        refine W.eq (g2 := F0 m 146 ls [.int (pd_b false)]) rfl ?_
        exact pd_zret (v := false) X w ⟨by simp [gr_said, z5, q165, q208], pd_kx.tr (pd_kx.tr (pd_kx.tr (k132) (k154)) (k169)) (k194)⟩ (by decide) (by decide) d_p6m2_146
      · -- not taken: 134
        refine lv_aload_n hx hb d_p6m2_134 rfl (lv_at hl 0 rfl) ?_
        refine pd_cS (As := [.ref x]) (rest := []) X w (c_Grammar_endsInMarks l G h191 (by assumption)) ok_Grammar_endsInMarks mT_728 mT_727 ⟨by decide, by decide⟩ rfl hl.1 rfl (Nat.le_of_ble_eq_true rfl) d_p6m2_135 ⟨by decide, by decide⟩ (fun r209 h210 H locs hp211 w => ?_)
        refine W.widen (k := 130) (n := 4160) (by decide) (by decide) ?_
        obtain ⟨e212, k213⟩ := hp211
        have f214 := k213 _ _ f195 List.not_mem_nil
        have f215 := k213 _ _ f196 List.not_mem_nil
        have f216 := k213 _ _ f197 List.not_mem_nil
        have f217 := k213 _ _ f198 List.not_mem_nil
        have f218 := k213 _ _ f199 List.not_mem_nil
        have f219 := k213 _ _ f200 List.not_mem_nil
        have f220 := k213 _ _ f201 List.not_mem_nil
        have f221 := k213 _ _ f202 List.not_mem_nil
        have f222 := k213 _ _ f203 List.not_mem_nil
        have f223 := f204.kx k213 List.not_mem_nil
        have f224 := f205.kx k213 List.not_mem_nil
        have f225 := f206.kx k213 List.not_mem_nil
        have f226 := f207.kx k213 List.not_mem_nil
        refine pd_beq (tgt := 145) hx hb d_p6m2_138 (by decide) (fun q227 => ?_) (fun q227 => ?_)
        · -- taken: 145
          refine lv_iconst (v := nI 0) hx hb d_p6m2_145 (by decide) ?_
          simp only [e153, e134, e171] at q165
          simp only [e193, e134, e171] at q208
          simp only [e212, e134, e171] at q227
          refine W.eq (g2 := F0 m 146 ls [.int (pd_b false)]) rfl ?_
          exact pd_zret (v := false) X w ⟨by simp [gr_said, z5, q165, q208, q227], pd_kx.tr (pd_kx.tr (pd_kx.tr (pd_kx.tr (k132) (k154)) (k169)) (k194)) (k213)⟩ (by decide) (by decide) d_p6m2_146
        · -- not taken: 141
          refine lv_iconst (v := nI 1) hx hb d_p6m2_141 (by decide) ?_
          refine lv_goto (tgt := 146) hx hb d_p6m2_142 (by decide) ?_
          simp only [e153, e134, e171] at q165
          simp only [e193, e134, e171] at q208
          simp only [e212, e134, e171] at q227
          refine W.eq (g2 := F0 m 146 ls [.int (pd_b true)]) rfl ?_
          exact pd_zret (v := true) X w ⟨by simp [gr_said, z5, q165, q208, q227], pd_kx.tr (pd_kx.tr (pd_kx.tr (pd_kx.tr (k132) (k154)) (k169)) (k194)) (k213)⟩ (by decide) (by decide) d_p6m2_146
  · -- case 5: 147
    refine lv_tableIn (tgt := 147) hx hb d_p6m2_8 (by rw [z5]; decide) (by rw [z5]; decide) (by rw [z5]; rfl) (by decide) ?_
    refine lv_aload_n hx hb d_p6m2_147 rfl (lv_at hl 0 rfl) ?_
    refine pd_get X w hxa rfl 1 (by decide) mT_543 rfl rfl d_p6m2_148 ?_
    refine lv_iconst (v := nI 2) hx hb d_p6m2_151 (by decide) ?_
    refine pd_jne (tgt := 170) hx hb d_p6m2_152 (by decide) (by omega) (by omega) (fun q228 => ?_) (fun q228 => ?_)
    · -- taken: 170
      refine lv_iconst (v := nI 0) hx hb d_p6m2_170 (by decide) ?_
      refine W.eq (g2 := F0 m 171 ls [.int (pd_b false)]) rfl ?_
      exact pd_zret (v := false) X w ⟨by simp [gr_said, z5, q228], pd_kx.rf⟩ (by decide) (by decide) d_p6m2_171
    · -- not taken: 155
      refine lv_aload_n hx hb d_p6m2_155 rfl (lv_at hl 0 rfl) ?_
      refine lv_iconst (v := nI 1) hx hb d_p6m2_156 (by decide) ?_
      refine pd_cV (a := x) (As := [.int (nI 1)]) (rest := []) X w hxa rfl (c_Line_word l G h (by assumption) (by omega)) ok_Line_word ⟨mT_574, mT_575⟩ mT_634 ⟨by decide, by decide⟩ rfl hl.1 rfl (Nat.le_of_ble_eq_true rfl) d_p6m2_157 ⟨by decide, by decide⟩ (fun r229 h230 H locs hp231 w => ?_)
      refine W.widen (k := 2) (n := 64) (by decide) (by decide) ?_
      obtain ⟨k232, ds233, e234, f235⟩ := hp231
      have f243 := k232 _ _ hxa List.not_mem_nil
      have f244 := k232 _ _ hv1 List.not_mem_nil
      have f245 := k232 _ _ hst List.not_mem_nil
      have f246 := k232 _ _ hv2 List.not_mem_nil
      have f247 := k232 _ _ f1 List.not_mem_nil
      have f248 := hL.kx k232 List.not_mem_nil
      have f249 := hS.kx k232 List.not_mem_nil
      obtain ⟨v236, g237, f238, f239, gf240, gc241, gl242⟩ := id f235
      refine pd_cS (As := [.ref r229]) (rest := []) X w (c_Grammar_isPattern l G h230 (by assumption)) ok_Grammar_isPattern mT_744 mT_743 ⟨by decide, by decide⟩ rfl hl.1 rfl (Nat.le_of_ble_eq_true rfl) d_p6m2_160 ⟨by decide, by decide⟩ (fun r250 h251 H locs hp252 w => ?_)
      refine W.widen (k := 12) (n := 384) (by decide) (by decide) ?_
      obtain ⟨e253, k254⟩ := hp252
      have f255 := k254 _ _ f243 List.not_mem_nil
      have f256 := k254 _ _ f244 List.not_mem_nil
      have f257 := k254 _ _ f238 List.not_mem_nil
      have f258 := k254 _ _ f245 List.not_mem_nil
      have f259 := k254 _ _ f246 List.not_mem_nil
      have f260 := k254 _ _ f247 List.not_mem_nil
      have f261 := k254 _ _ f239 List.not_mem_nil
      have f262 := f248.kx k254 List.not_mem_nil
      have f263 := f249.kx k254 List.not_mem_nil
      have f264 := f235.kx k254 List.not_mem_nil
      refine pd_beq (tgt := 170) hx hb d_p6m2_163 (by decide) (fun q265 => ?_) (fun q265 => ?_)
      · -- taken: 170
        refine lv_iconst (v := nI 0) hx hb d_p6m2_170 (by decide) ?_
        simp only [e253, e234] at q265
        refine W.eq (g2 := F0 m 171 ls [.int (pd_b false)]) rfl ?_
        exact pd_zret (v := false) X w ⟨by simp [gr_said, z5, q228, q265], pd_kx.tr (k232) (k254)⟩ (by decide) (by decide) d_p6m2_171
      · -- not taken: 166
        refine lv_iconst (v := nI 1) hx hb d_p6m2_166 (by decide) ?_
        refine lv_goto (tgt := 171) hx hb d_p6m2_167 (by decide) ?_
        simp only [e253, e234] at q265
        refine W.eq (g2 := F0 m 171 ls [.int (pd_b true)]) rfl ?_
        exact pd_zret (v := true) X w ⟨by simp [gr_said, z5, q228, q265], pd_kx.tr (k232) (k254)⟩ (by decide) (by decide) d_p6m2_171
  · -- case 6: 147
    refine lv_tableIn (tgt := 147) hx hb d_p6m2_8 (by rw [z5]; decide) (by rw [z5]; decide) (by rw [z5]; rfl) (by decide) ?_
    refine lv_aload_n hx hb d_p6m2_147 rfl (lv_at hl 0 rfl) ?_
    refine pd_get X w hxa rfl 1 (by decide) mT_543 rfl rfl d_p6m2_148 ?_
    refine lv_iconst (v := nI 2) hx hb d_p6m2_151 (by decide) ?_
    refine pd_jne (tgt := 170) hx hb d_p6m2_152 (by decide) (by omega) (by omega) (fun q266 => ?_) (fun q266 => ?_)
    · -- taken: 170
      refine lv_iconst (v := nI 0) hx hb d_p6m2_170 (by decide) ?_
      refine W.eq (g2 := F0 m 171 ls [.int (pd_b false)]) rfl ?_
      exact pd_zret (v := false) X w ⟨by simp [gr_said, z5, q266], pd_kx.rf⟩ (by decide) (by decide) d_p6m2_171
    · -- not taken: 155
      refine lv_aload_n hx hb d_p6m2_155 rfl (lv_at hl 0 rfl) ?_
      refine lv_iconst (v := nI 1) hx hb d_p6m2_156 (by decide) ?_
      refine pd_cV (a := x) (As := [.int (nI 1)]) (rest := []) X w hxa rfl (c_Line_word l G h (by assumption) (by omega)) ok_Line_word ⟨mT_574, mT_575⟩ mT_634 ⟨by decide, by decide⟩ rfl hl.1 rfl (Nat.le_of_ble_eq_true rfl) d_p6m2_157 ⟨by decide, by decide⟩ (fun r267 h268 H locs hp269 w => ?_)
      refine W.widen (k := 2) (n := 64) (by decide) (by decide) ?_
      obtain ⟨k270, ds271, e272, f273⟩ := hp269
      have f281 := k270 _ _ hxa List.not_mem_nil
      have f282 := k270 _ _ hv1 List.not_mem_nil
      have f283 := k270 _ _ hst List.not_mem_nil
      have f284 := k270 _ _ hv2 List.not_mem_nil
      have f285 := k270 _ _ f1 List.not_mem_nil
      have f286 := hL.kx k270 List.not_mem_nil
      have f287 := hS.kx k270 List.not_mem_nil
      obtain ⟨v274, g275, f276, f277, gf278, gc279, gl280⟩ := id f273
      refine pd_cS (As := [.ref r267]) (rest := []) X w (c_Grammar_isPattern l G h268 (by assumption)) ok_Grammar_isPattern mT_744 mT_743 ⟨by decide, by decide⟩ rfl hl.1 rfl (Nat.le_of_ble_eq_true rfl) d_p6m2_160 ⟨by decide, by decide⟩ (fun r288 h289 H locs hp290 w => ?_)
      refine W.widen (k := 12) (n := 384) (by decide) (by decide) ?_
      obtain ⟨e291, k292⟩ := hp290
      have f293 := k292 _ _ f281 List.not_mem_nil
      have f294 := k292 _ _ f282 List.not_mem_nil
      have f295 := k292 _ _ f276 List.not_mem_nil
      have f296 := k292 _ _ f283 List.not_mem_nil
      have f297 := k292 _ _ f284 List.not_mem_nil
      have f298 := k292 _ _ f285 List.not_mem_nil
      have f299 := k292 _ _ f277 List.not_mem_nil
      have f300 := f286.kx k292 List.not_mem_nil
      have f301 := f287.kx k292 List.not_mem_nil
      have f302 := f273.kx k292 List.not_mem_nil
      refine pd_beq (tgt := 170) hx hb d_p6m2_163 (by decide) (fun q303 => ?_) (fun q303 => ?_)
      · -- taken: 170
        refine lv_iconst (v := nI 0) hx hb d_p6m2_170 (by decide) ?_
        simp only [e291, e272] at q303
        refine W.eq (g2 := F0 m 171 ls [.int (pd_b false)]) rfl ?_
        exact pd_zret (v := false) X w ⟨by simp [gr_said, z5, q266, q303], pd_kx.tr (k270) (k292)⟩ (by decide) (by decide) d_p6m2_171
      · -- not taken: 166
        refine lv_iconst (v := nI 1) hx hb d_p6m2_166 (by decide) ?_
        refine lv_goto (tgt := 171) hx hb d_p6m2_167 (by decide) ?_
        simp only [e291, e272] at q303
        refine W.eq (g2 := F0 m 171 ls [.int (pd_b true)]) rfl ?_
        exact pd_zret (v := true) X w ⟨by simp [gr_said, z5, q266, q303], pd_kx.tr (k270) (k292)⟩ (by decide) (by decide) d_p6m2_171
  · -- case 7: 172
    refine lv_tableIn (tgt := 172) hx hb d_p6m2_8 (by rw [z5]; decide) (by rw [z5]; decide) (by rw [z5]; rfl) (by decide) ?_
    refine lv_aload_n hx hb d_p6m2_172 rfl (lv_at hl 0 rfl) ?_
    refine pd_get X w hxa rfl 1 (by decide) mT_543 rfl rfl d_p6m2_173 ?_
    refine lv_iconst (v := nI 3) hx hb d_p6m2_176 (by decide) ?_
    refine pd_jne (tgt := 206) hx hb d_p6m2_177 (by decide) (by omega) (by omega) (fun q304 => ?_) (fun q304 => ?_)
    · -- taken: 206
      refine lv_iconst (v := nI 0) hx hb d_p6m2_206 (by decide) ?_
      refine W.eq (g2 := F0 m 207 ls [.int (pd_b false)]) rfl ?_
      exact pd_zret (v := false) X w ⟨by simp [gr_said, z5, q304], pd_kx.rf⟩ (by decide) (by decide) d_p6m2_207
    · -- not taken: 180
      refine lv_aload_n hx hb d_p6m2_180 rfl (lv_at hl 0 rfl) ?_
      refine lv_iconst (v := nI 1) hx hb d_p6m2_181 (by decide) ?_
      refine pd_cV (a := x) (As := [.int (nI 1)]) (rest := []) X w hxa rfl (c_Line_word l G h (by assumption) (by omega)) ok_Line_word ⟨mT_574, mT_575⟩ mT_634 ⟨by decide, by decide⟩ rfl hl.1 rfl (Nat.le_of_ble_eq_true rfl) d_p6m2_182 ⟨by decide, by decide⟩ (fun r305 h306 H locs hp307 w => ?_)
      refine W.widen (k := 2) (n := 64) (by decide) (by decide) ?_
      obtain ⟨k308, ds309, e310, f311⟩ := hp307
      have f319 := k308 _ _ hxa List.not_mem_nil
      have f320 := k308 _ _ hv1 List.not_mem_nil
      have f321 := k308 _ _ hst List.not_mem_nil
      have f322 := k308 _ _ hv2 List.not_mem_nil
      have f323 := k308 _ _ f1 List.not_mem_nil
      have f324 := hL.kx k308 List.not_mem_nil
      have f325 := hS.kx k308 List.not_mem_nil
      obtain ⟨v312, g313, f314, f315, gf316, gc317, gl318⟩ := id f311
      refine pd_cS (As := [.ref r305]) (rest := []) X w (c_Grammar_isPattern l G h306 (by assumption)) ok_Grammar_isPattern mT_744 mT_743 ⟨by decide, by decide⟩ rfl hl.1 rfl (Nat.le_of_ble_eq_true rfl) d_p6m2_185 ⟨by decide, by decide⟩ (fun r326 h327 H locs hp328 w => ?_)
      refine W.widen (k := 12) (n := 384) (by decide) (by decide) ?_
      obtain ⟨e329, k330⟩ := hp328
      have f331 := k330 _ _ f319 List.not_mem_nil
      have f332 := k330 _ _ f320 List.not_mem_nil
      have f333 := k330 _ _ f314 List.not_mem_nil
      have f334 := k330 _ _ f321 List.not_mem_nil
      have f335 := k330 _ _ f322 List.not_mem_nil
      have f336 := k330 _ _ f323 List.not_mem_nil
      have f337 := k330 _ _ f315 List.not_mem_nil
      have f338 := f324.kx k330 List.not_mem_nil
      have f339 := f325.kx k330 List.not_mem_nil
      have f340 := f311.kx k330 List.not_mem_nil
      refine pd_beq (tgt := 206) hx hb d_p6m2_188 (by decide) (fun q341 => ?_) (fun q341 => ?_)
      · -- taken: 206
        refine lv_iconst (v := nI 0) hx hb d_p6m2_206 (by decide) ?_
        simp only [e329, e310] at q341
        refine W.eq (g2 := F0 m 207 ls [.int (pd_b false)]) rfl ?_
        exact pd_zret (v := false) X w ⟨by simp [gr_said, z5, q304, q341], pd_kx.tr (k308) (k330)⟩ (by decide) (by decide) d_p6m2_207
      · -- not taken: 191
        refine lv_aload_n hx hb d_p6m2_191 rfl (lv_at hl 0 rfl) ?_
        refine lv_iconst (v := nI 2) hx hb d_p6m2_192 (by decide) ?_
        refine pd_cV (a := x) (As := [.int (nI 2)]) (rest := []) X w f331 rfl (c_Line_word l G h327 (by assumption) (by omega)) ok_Line_word ⟨mT_574, mT_575⟩ mT_634 ⟨by decide, by decide⟩ rfl hl.1 rfl (Nat.le_of_ble_eq_true rfl) d_p6m2_193 ⟨by decide, by decide⟩ (fun r342 h343 H locs hp344 w => ?_)
        refine W.widen (k := 14) (n := 448) (by decide) (by decide) ?_
        obtain ⟨k345, ds346, e347, f348⟩ := hp344
        have f356 := k345 _ _ f331 List.not_mem_nil
        have f357 := k345 _ _ f332 List.not_mem_nil
        have f358 := k345 _ _ f333 List.not_mem_nil
        have f359 := k345 _ _ f334 List.not_mem_nil
        have f360 := k345 _ _ f335 List.not_mem_nil
        have f361 := k345 _ _ f336 List.not_mem_nil
        have f362 := k345 _ _ f337 List.not_mem_nil
        have f363 := f338.kx k345 List.not_mem_nil
        have f364 := f339.kx k345 List.not_mem_nil
        have f365 := f340.kx k345 List.not_mem_nil
        obtain ⟨v349, g350, f351, f352, gf353, gc354, gl355⟩ := id f348
        refine pd_cS (As := [.ref r342]) (rest := []) X w (c_Grammar_isCost l G h343 (by assumption)) ok_Grammar_isCost mT_764 mT_763 ⟨by decide, by decide⟩ rfl hl.1 rfl (Nat.le_of_ble_eq_true rfl) d_p6m2_196 ⟨by decide, by decide⟩ (fun r366 h367 H locs hp368 w => ?_)
        refine W.widen (k := 14) (n := 448) (by decide) (by decide) ?_
        obtain ⟨e369, rfl⟩ := hp368
        refine pd_beq (tgt := 206) hx hb d_p6m2_199 (by decide) (fun q370 => ?_) (fun q370 => ?_)
        · -- taken: 206
          refine lv_iconst (v := nI 0) hx hb d_p6m2_206 (by decide) ?_
          simp only [e329, e310, e347] at q341
          simp only [e369, e310, e347] at q370
          refine W.eq (g2 := F0 m 207 ls [.int (pd_b false)]) rfl ?_
          exact pd_zret (v := false) X w ⟨by simp [gr_said, z5, q304, q341, q370], pd_kx.tr (pd_kx.tr (k308) (k330)) (k345)⟩ (by decide) (by decide) d_p6m2_207
        · -- not taken: 202
          refine lv_iconst (v := nI 1) hx hb d_p6m2_202 (by decide) ?_
          refine lv_goto (tgt := 207) hx hb d_p6m2_203 (by decide) ?_
          simp only [e329, e310, e347] at q341
          simp only [e369, e310, e347] at q370
          refine W.eq (g2 := F0 m 207 ls [.int (pd_b true)]) rfl ?_
          exact pd_zret (v := true) X w ⟨by simp [gr_said, z5, q304, q341, q370], pd_kx.tr (pd_kx.tr (k308) (k330)) (k345)⟩ (by decide) (by decide) d_p6m2_207
  · -- case 8: 208
    refine lv_tableIn (tgt := 208) hx hb d_p6m2_8 (by rw [z5]; decide) (by rw [z5]; decide) (by rw [z5]; rfl) (by decide) ?_
    refine lv_aload_n hx hb d_p6m2_208 rfl (lv_at hl 0 rfl) ?_
    refine pd_get X w hxa rfl 1 (by decide) mT_543 rfl rfl d_p6m2_209 ?_
    refine lv_iconst (v := nI 3) hx hb d_p6m2_212 (by decide) ?_
    refine pd_jne (tgt := 242) hx hb d_p6m2_213 (by decide) (by omega) (by omega) (fun q371 => ?_) (fun q371 => ?_)
    · -- taken: 242
      refine lv_iconst (v := nI 0) hx hb d_p6m2_242 (by decide) ?_
      refine W.eq (g2 := F0 m 243 ls [.int (pd_b false)]) rfl ?_
      exact pd_zret (v := false) X w ⟨by simp [gr_said, z5, q371], pd_kx.rf⟩ (by decide) (by decide) d_p6m2_243
    · -- not taken: 216
      refine lv_aload_n hx hb d_p6m2_216 rfl (lv_at hl 0 rfl) ?_
      refine lv_iconst (v := nI 1) hx hb d_p6m2_217 (by decide) ?_
      refine pd_cV (a := x) (As := [.int (nI 1)]) (rest := []) X w hxa rfl (c_Line_word l G h (by assumption) (by omega)) ok_Line_word ⟨mT_574, mT_575⟩ mT_634 ⟨by decide, by decide⟩ rfl hl.1 rfl (Nat.le_of_ble_eq_true rfl) d_p6m2_218 ⟨by decide, by decide⟩ (fun r372 h373 H locs hp374 w => ?_)
      refine W.widen (k := 2) (n := 64) (by decide) (by decide) ?_
      obtain ⟨k375, ds376, e377, f378⟩ := hp374
      have f386 := k375 _ _ hxa List.not_mem_nil
      have f387 := k375 _ _ hv1 List.not_mem_nil
      have f388 := k375 _ _ hst List.not_mem_nil
      have f389 := k375 _ _ hv2 List.not_mem_nil
      have f390 := k375 _ _ f1 List.not_mem_nil
      have f391 := hL.kx k375 List.not_mem_nil
      have f392 := hS.kx k375 List.not_mem_nil
      obtain ⟨v379, g380, f381, f382, gf383, gc384, gl385⟩ := id f378
      refine pd_cS (As := [.ref r372]) (rest := []) X w (c_Grammar_isPattern l G h373 (by assumption)) ok_Grammar_isPattern mT_744 mT_743 ⟨by decide, by decide⟩ rfl hl.1 rfl (Nat.le_of_ble_eq_true rfl) d_p6m2_221 ⟨by decide, by decide⟩ (fun r393 h394 H locs hp395 w => ?_)
      refine W.widen (k := 12) (n := 384) (by decide) (by decide) ?_
      obtain ⟨e396, k397⟩ := hp395
      have f398 := k397 _ _ f386 List.not_mem_nil
      have f399 := k397 _ _ f387 List.not_mem_nil
      have f400 := k397 _ _ f381 List.not_mem_nil
      have f401 := k397 _ _ f388 List.not_mem_nil
      have f402 := k397 _ _ f389 List.not_mem_nil
      have f403 := k397 _ _ f390 List.not_mem_nil
      have f404 := k397 _ _ f382 List.not_mem_nil
      have f405 := f391.kx k397 List.not_mem_nil
      have f406 := f392.kx k397 List.not_mem_nil
      have f407 := f378.kx k397 List.not_mem_nil
      refine pd_beq (tgt := 242) hx hb d_p6m2_224 (by decide) (fun q408 => ?_) (fun q408 => ?_)
      · -- taken: 242
        refine lv_iconst (v := nI 0) hx hb d_p6m2_242 (by decide) ?_
        simp only [e396, e377] at q408
        refine W.eq (g2 := F0 m 243 ls [.int (pd_b false)]) rfl ?_
        exact pd_zret (v := false) X w ⟨by simp [gr_said, z5, q371, q408], pd_kx.tr (k375) (k397)⟩ (by decide) (by decide) d_p6m2_243
      · -- not taken: 227
        refine lv_aload_n hx hb d_p6m2_227 rfl (lv_at hl 0 rfl) ?_
        refine lv_iconst (v := nI 2) hx hb d_p6m2_228 (by decide) ?_
        refine pd_cV (a := x) (As := [.int (nI 2)]) (rest := []) X w f398 rfl (c_Line_word l G h394 (by assumption) (by omega)) ok_Line_word ⟨mT_574, mT_575⟩ mT_634 ⟨by decide, by decide⟩ rfl hl.1 rfl (Nat.le_of_ble_eq_true rfl) d_p6m2_229 ⟨by decide, by decide⟩ (fun r409 h410 H locs hp411 w => ?_)
        refine W.widen (k := 14) (n := 448) (by decide) (by decide) ?_
        obtain ⟨k412, ds413, e414, f415⟩ := hp411
        have f423 := k412 _ _ f398 List.not_mem_nil
        have f424 := k412 _ _ f399 List.not_mem_nil
        have f425 := k412 _ _ f400 List.not_mem_nil
        have f426 := k412 _ _ f401 List.not_mem_nil
        have f427 := k412 _ _ f402 List.not_mem_nil
        have f428 := k412 _ _ f403 List.not_mem_nil
        have f429 := k412 _ _ f404 List.not_mem_nil
        have f430 := f405.kx k412 List.not_mem_nil
        have f431 := f406.kx k412 List.not_mem_nil
        have f432 := f407.kx k412 List.not_mem_nil
        obtain ⟨v416, g417, f418, f419, gf420, gc421, gl422⟩ := id f415
        refine pd_cS (As := [.ref r409]) (rest := []) X w (c_Grammar_isMember l G h410 (by assumption)) ok_Grammar_isMember mT_646 mT_645 ⟨by decide, by decide⟩ rfl hl.1 rfl (Nat.le_of_ble_eq_true rfl) d_p6m2_232 ⟨by decide, by decide⟩ (fun r433 h434 H locs hp435 w => ?_)
        refine W.widen (k := 18) (n := 576) (by decide) (by decide) ?_
        obtain ⟨e436, k437⟩ := hp435
        have f438 := k437 _ _ f423 List.not_mem_nil
        have f439 := k437 _ _ f424 List.not_mem_nil
        have f440 := k437 _ _ f425 List.not_mem_nil
        have f441 := k437 _ _ f418 List.not_mem_nil
        have f442 := k437 _ _ f426 List.not_mem_nil
        have f443 := k437 _ _ f427 List.not_mem_nil
        have f444 := k437 _ _ f428 List.not_mem_nil
        have f445 := k437 _ _ f429 List.not_mem_nil
        have f446 := k437 _ _ f419 List.not_mem_nil
        have f447 := f430.kx k437 List.not_mem_nil
        have f448 := f431.kx k437 List.not_mem_nil
        have f449 := f432.kx k437 List.not_mem_nil
        have f450 := f415.kx k437 List.not_mem_nil
        refine pd_beq (tgt := 242) hx hb d_p6m2_235 (by decide) (fun q451 => ?_) (fun q451 => ?_)
        · -- taken: 242
          refine lv_iconst (v := nI 0) hx hb d_p6m2_242 (by decide) ?_
          simp only [e396, e377, e414] at q408
          simp only [e436, e377, e414] at q451
          refine W.eq (g2 := F0 m 243 ls [.int (pd_b false)]) rfl ?_
          exact pd_zret (v := false) X w ⟨by simp [gr_said, z5, q371, q408, q451], pd_kx.tr (pd_kx.tr (pd_kx.tr (k375) (k397)) (k412)) (k437)⟩ (by decide) (by decide) d_p6m2_243
        · -- not taken: 238
          refine lv_iconst (v := nI 1) hx hb d_p6m2_238 (by decide) ?_
          refine lv_goto (tgt := 243) hx hb d_p6m2_239 (by decide) ?_
          simp only [e396, e377, e414] at q408
          simp only [e436, e377, e414] at q451
          refine W.eq (g2 := F0 m 243 ls [.int (pd_b true)]) rfl ?_
          exact pd_zret (v := true) X w ⟨by simp [gr_said, z5, q371, q408, q451], pd_kx.tr (pd_kx.tr (pd_kx.tr (k375) (k397)) (k412)) (k437)⟩ (by decide) (by decide) d_p6m2_243
  · -- case 9: 244
    refine lv_tableIn (tgt := 244) hx hb d_p6m2_8 (by rw [z5]; decide) (by rw [z5]; decide) (by rw [z5]; rfl) (by decide) ?_
    refine lv_aload_n hx hb d_p6m2_244 rfl (lv_at hl 0 rfl) ?_
    refine pd_get X w hxa rfl 1 (by decide) mT_543 rfl rfl d_p6m2_245 ?_
    refine lv_iconst (v := nI 3) hx hb d_p6m2_248 (by decide) ?_
    refine pd_jne (tgt := 278) hx hb d_p6m2_249 (by decide) (by omega) (by omega) (fun q452 => ?_) (fun q452 => ?_)
    · -- taken: 278
      refine lv_iconst (v := nI 0) hx hb d_p6m2_278 (by decide) ?_
      refine W.eq (g2 := F0 m 279 ls [.int (pd_b false)]) rfl ?_
      exact pd_zret (v := false) X w ⟨by simp [gr_said, z5, q452], pd_kx.rf⟩ (by decide) (by decide) d_p6m2_279
    · -- not taken: 252
      refine lv_aload_n hx hb d_p6m2_252 rfl (lv_at hl 0 rfl) ?_
      refine lv_iconst (v := nI 1) hx hb d_p6m2_253 (by decide) ?_
      refine pd_cV (a := x) (As := [.int (nI 1)]) (rest := []) X w hxa rfl (c_Line_word l G h (by assumption) (by omega)) ok_Line_word ⟨mT_574, mT_575⟩ mT_634 ⟨by decide, by decide⟩ rfl hl.1 rfl (Nat.le_of_ble_eq_true rfl) d_p6m2_254 ⟨by decide, by decide⟩ (fun r453 h454 H locs hp455 w => ?_)
      refine W.widen (k := 2) (n := 64) (by decide) (by decide) ?_
      obtain ⟨k456, ds457, e458, f459⟩ := hp455
      have f467 := k456 _ _ hxa List.not_mem_nil
      have f468 := k456 _ _ hv1 List.not_mem_nil
      have f469 := k456 _ _ hst List.not_mem_nil
      have f470 := k456 _ _ hv2 List.not_mem_nil
      have f471 := k456 _ _ f1 List.not_mem_nil
      have f472 := hL.kx k456 List.not_mem_nil
      have f473 := hS.kx k456 List.not_mem_nil
      obtain ⟨v460, g461, f462, f463, gf464, gc465, gl466⟩ := id f459
      refine pd_cS (As := [.ref r453]) (rest := []) X w (c_Grammar_isMember l G h454 (by assumption)) ok_Grammar_isMember mT_646 mT_645 ⟨by decide, by decide⟩ rfl hl.1 rfl (Nat.le_of_ble_eq_true rfl) d_p6m2_257 ⟨by decide, by decide⟩ (fun r474 h475 H locs hp476 w => ?_)
      refine W.widen (k := 6) (n := 192) (by decide) (by decide) ?_
      obtain ⟨e477, k478⟩ := hp476
      have f479 := k478 _ _ f467 List.not_mem_nil
      have f480 := k478 _ _ f468 List.not_mem_nil
      have f481 := k478 _ _ f462 List.not_mem_nil
      have f482 := k478 _ _ f469 List.not_mem_nil
      have f483 := k478 _ _ f470 List.not_mem_nil
      have f484 := k478 _ _ f471 List.not_mem_nil
      have f485 := k478 _ _ f463 List.not_mem_nil
      have f486 := f472.kx k478 List.not_mem_nil
      have f487 := f473.kx k478 List.not_mem_nil
      have f488 := f459.kx k478 List.not_mem_nil
      refine pd_beq (tgt := 278) hx hb d_p6m2_260 (by decide) (fun q489 => ?_) (fun q489 => ?_)
      · -- taken: 278
        refine lv_iconst (v := nI 0) hx hb d_p6m2_278 (by decide) ?_
        simp only [e477, e458] at q489
        refine W.eq (g2 := F0 m 279 ls [.int (pd_b false)]) rfl ?_
        exact pd_zret (v := false) X w ⟨by simp [gr_said, z5, q452, q489], pd_kx.tr (k456) (k478)⟩ (by decide) (by decide) d_p6m2_279
      · -- not taken: 263
        refine lv_aload_n hx hb d_p6m2_263 rfl (lv_at hl 0 rfl) ?_
        refine lv_iconst (v := nI 2) hx hb d_p6m2_264 (by decide) ?_
        refine pd_cV (a := x) (As := [.int (nI 2)]) (rest := []) X w f479 rfl (c_Line_word l G h475 (by assumption) (by omega)) ok_Line_word ⟨mT_574, mT_575⟩ mT_634 ⟨by decide, by decide⟩ rfl hl.1 rfl (Nat.le_of_ble_eq_true rfl) d_p6m2_265 ⟨by decide, by decide⟩ (fun r490 h491 H locs hp492 w => ?_)
        refine W.widen (k := 8) (n := 256) (by decide) (by decide) ?_
        obtain ⟨k493, ds494, e495, f496⟩ := hp492
        have f504 := k493 _ _ f479 List.not_mem_nil
        have f505 := k493 _ _ f480 List.not_mem_nil
        have f506 := k493 _ _ f481 List.not_mem_nil
        have f507 := k493 _ _ f482 List.not_mem_nil
        have f508 := k493 _ _ f483 List.not_mem_nil
        have f509 := k493 _ _ f484 List.not_mem_nil
        have f510 := k493 _ _ f485 List.not_mem_nil
        have f511 := f486.kx k493 List.not_mem_nil
        have f512 := f487.kx k493 List.not_mem_nil
        have f513 := f488.kx k493 List.not_mem_nil
        obtain ⟨v497, g498, f499, f500, gf501, gc502, gl503⟩ := id f496
        refine pd_cS (As := [.ref r490]) (rest := []) X w (c_Grammar_isType l G h491 (by assumption)) ok_Grammar_isType mT_718 mT_717 ⟨by decide, by decide⟩ rfl hl.1 rfl (Nat.le_of_ble_eq_true rfl) d_p6m2_268 ⟨by decide, by decide⟩ (fun r514 h515 H locs hp516 w => ?_)
        refine W.widen (k := 10) (n := 320) (by decide) (by decide) ?_
        obtain ⟨e517, k518⟩ := hp516
        have f519 := k518 _ _ f504 List.not_mem_nil
        have f520 := k518 _ _ f505 List.not_mem_nil
        have f521 := k518 _ _ f506 List.not_mem_nil
        have f522 := k518 _ _ f499 List.not_mem_nil
        have f523 := k518 _ _ f507 List.not_mem_nil
        have f524 := k518 _ _ f508 List.not_mem_nil
        have f525 := k518 _ _ f509 List.not_mem_nil
        have f526 := k518 _ _ f510 List.not_mem_nil
        have f527 := k518 _ _ f500 List.not_mem_nil
        have f528 := f511.kx k518 List.not_mem_nil
        have f529 := f512.kx k518 List.not_mem_nil
        have f530 := f513.kx k518 List.not_mem_nil
        have f531 := f496.kx k518 List.not_mem_nil
        refine pd_beq (tgt := 278) hx hb d_p6m2_271 (by decide) (fun q532 => ?_) (fun q532 => ?_)
        · -- taken: 278
          refine lv_iconst (v := nI 0) hx hb d_p6m2_278 (by decide) ?_
          simp only [e477, e458, e495] at q489
          simp only [e517, e458, e495] at q532
          refine W.eq (g2 := F0 m 279 ls [.int (pd_b false)]) rfl ?_
          exact pd_zret (v := false) X w ⟨by simp [gr_said, z5, q452, q489, q532], pd_kx.tr (pd_kx.tr (pd_kx.tr (k456) (k478)) (k493)) (k518)⟩ (by decide) (by decide) d_p6m2_279
        · -- not taken: 274
          refine lv_iconst (v := nI 1) hx hb d_p6m2_274 (by decide) ?_
          refine lv_goto (tgt := 279) hx hb d_p6m2_275 (by decide) ?_
          simp only [e477, e458, e495] at q489
          simp only [e517, e458, e495] at q532
          refine W.eq (g2 := F0 m 279 ls [.int (pd_b true)]) rfl ?_
          exact pd_zret (v := true) X w ⟨by simp [gr_said, z5, q452, q489, q532], pd_kx.tr (pd_kx.tr (pd_kx.tr (k456) (k478)) (k493)) (k518)⟩ (by decide) (by decide) d_p6m2_279
  · -- case 10: 280
    refine lv_tableIn (tgt := 280) hx hb d_p6m2_8 (by rw [z5]; decide) (by rw [z5]; decide) (by rw [z5]; rfl) (by decide) ?_
    refine lv_aload_n hx hb d_p6m2_280 rfl (lv_at hl 0 rfl) ?_
    refine pd_get X w hxa rfl 1 (by decide) mT_543 rfl rfl d_p6m2_281 ?_
    refine lv_iconst (v := nI 3) hx hb d_p6m2_284 (by decide) ?_
    refine pd_jne (tgt := 314) hx hb d_p6m2_285 (by decide) (by omega) (by omega) (fun q533 => ?_) (fun q533 => ?_)
    · -- taken: 314
      refine lv_iconst (v := nI 0) hx hb d_p6m2_314 (by decide) ?_
      refine W.eq (g2 := F0 m 315 ls [.int (pd_b false)]) rfl ?_
      exact pd_zret (v := false) X w ⟨by simp [gr_said, z5, q533], pd_kx.rf⟩ (by decide) (by decide) d_p6m2_315
    · -- not taken: 288
      refine lv_aload_n hx hb d_p6m2_288 rfl (lv_at hl 0 rfl) ?_
      refine lv_iconst (v := nI 1) hx hb d_p6m2_289 (by decide) ?_
      refine pd_cV (a := x) (As := [.int (nI 1)]) (rest := []) X w hxa rfl (c_Line_word l G h (by assumption) (by omega)) ok_Line_word ⟨mT_574, mT_575⟩ mT_634 ⟨by decide, by decide⟩ rfl hl.1 rfl (Nat.le_of_ble_eq_true rfl) d_p6m2_290 ⟨by decide, by decide⟩ (fun r534 h535 H locs hp536 w => ?_)
      refine W.widen (k := 2) (n := 64) (by decide) (by decide) ?_
      obtain ⟨k537, ds538, e539, f540⟩ := hp536
      have f548 := k537 _ _ hxa List.not_mem_nil
      have f549 := k537 _ _ hv1 List.not_mem_nil
      have f550 := k537 _ _ hst List.not_mem_nil
      have f551 := k537 _ _ hv2 List.not_mem_nil
      have f552 := k537 _ _ f1 List.not_mem_nil
      have f553 := hL.kx k537 List.not_mem_nil
      have f554 := hS.kx k537 List.not_mem_nil
      obtain ⟨v541, g542, f543, f544, gf545, gc546, gl547⟩ := id f540
      refine pd_cS (As := [.ref r534]) (rest := []) X w (c_Grammar_isMember l G h535 (by assumption)) ok_Grammar_isMember mT_646 mT_645 ⟨by decide, by decide⟩ rfl hl.1 rfl (Nat.le_of_ble_eq_true rfl) d_p6m2_293 ⟨by decide, by decide⟩ (fun r555 h556 H locs hp557 w => ?_)
      refine W.widen (k := 6) (n := 192) (by decide) (by decide) ?_
      obtain ⟨e558, k559⟩ := hp557
      have f560 := k559 _ _ f548 List.not_mem_nil
      have f561 := k559 _ _ f549 List.not_mem_nil
      have f562 := k559 _ _ f543 List.not_mem_nil
      have f563 := k559 _ _ f550 List.not_mem_nil
      have f564 := k559 _ _ f551 List.not_mem_nil
      have f565 := k559 _ _ f552 List.not_mem_nil
      have f566 := k559 _ _ f544 List.not_mem_nil
      have f567 := f553.kx k559 List.not_mem_nil
      have f568 := f554.kx k559 List.not_mem_nil
      have f569 := f540.kx k559 List.not_mem_nil
      refine pd_beq (tgt := 314) hx hb d_p6m2_296 (by decide) (fun q570 => ?_) (fun q570 => ?_)
      · -- taken: 314
        refine lv_iconst (v := nI 0) hx hb d_p6m2_314 (by decide) ?_
        simp only [e558, e539] at q570
        refine W.eq (g2 := F0 m 315 ls [.int (pd_b false)]) rfl ?_
        exact pd_zret (v := false) X w ⟨by simp [gr_said, z5, q533, q570], pd_kx.tr (k537) (k559)⟩ (by decide) (by decide) d_p6m2_315
      · -- not taken: 299
        refine lv_aload_n hx hb d_p6m2_299 rfl (lv_at hl 0 rfl) ?_
        refine lv_iconst (v := nI 2) hx hb d_p6m2_300 (by decide) ?_
        refine pd_cV (a := x) (As := [.int (nI 2)]) (rest := []) X w f560 rfl (c_Line_word l G h556 (by assumption) (by omega)) ok_Line_word ⟨mT_574, mT_575⟩ mT_634 ⟨by decide, by decide⟩ rfl hl.1 rfl (Nat.le_of_ble_eq_true rfl) d_p6m2_301 ⟨by decide, by decide⟩ (fun r571 h572 H locs hp573 w => ?_)
        refine W.widen (k := 8) (n := 256) (by decide) (by decide) ?_
        obtain ⟨k574, ds575, e576, f577⟩ := hp573
        have f585 := k574 _ _ f560 List.not_mem_nil
        have f586 := k574 _ _ f561 List.not_mem_nil
        have f587 := k574 _ _ f562 List.not_mem_nil
        have f588 := k574 _ _ f563 List.not_mem_nil
        have f589 := k574 _ _ f564 List.not_mem_nil
        have f590 := k574 _ _ f565 List.not_mem_nil
        have f591 := k574 _ _ f566 List.not_mem_nil
        have f592 := f567.kx k574 List.not_mem_nil
        have f593 := f568.kx k574 List.not_mem_nil
        have f594 := f569.kx k574 List.not_mem_nil
        obtain ⟨v578, g579, f580, f581, gf582, gc583, gl584⟩ := id f577
        refine pd_cS (As := [.ref r571]) (rest := []) X w (c_Grammar_isShape l G h572 (by assumption)) ok_Grammar_isShape mT_738 mT_737 ⟨by decide, by decide⟩ rfl hl.1 rfl (Nat.le_of_ble_eq_true rfl) d_p6m2_304 ⟨by decide, by decide⟩ (fun r595 h596 H locs hp597 w => ?_)
        refine W.widen (k := 128) (n := 4096) (by decide) (by decide) ?_
        obtain ⟨e598, k599⟩ := hp597
        have f600 := k599 _ _ f585 List.not_mem_nil
        have f601 := k599 _ _ f586 List.not_mem_nil
        have f602 := k599 _ _ f587 List.not_mem_nil
        have f603 := k599 _ _ f580 List.not_mem_nil
        have f604 := k599 _ _ f588 List.not_mem_nil
        have f605 := k599 _ _ f589 List.not_mem_nil
        have f606 := k599 _ _ f590 List.not_mem_nil
        have f607 := k599 _ _ f591 List.not_mem_nil
        have f608 := k599 _ _ f581 List.not_mem_nil
        have f609 := f592.kx k599 List.not_mem_nil
        have f610 := f593.kx k599 List.not_mem_nil
        have f611 := f594.kx k599 List.not_mem_nil
        have f612 := f577.kx k599 List.not_mem_nil
        refine pd_beq (tgt := 314) hx hb d_p6m2_307 (by decide) (fun q613 => ?_) (fun q613 => ?_)
        · -- taken: 314
          refine lv_iconst (v := nI 0) hx hb d_p6m2_314 (by decide) ?_
          simp only [e558, e539, e576] at q570
          simp only [e598, e539, e576] at q613
          refine W.eq (g2 := F0 m 315 ls [.int (pd_b false)]) rfl ?_
          exact pd_zret (v := false) X w ⟨by simp [gr_said, z5, q533, q570, q613], pd_kx.tr (pd_kx.tr (pd_kx.tr (k537) (k559)) (k574)) (k599)⟩ (by decide) (by decide) d_p6m2_315
        · -- not taken: 310
          refine lv_iconst (v := nI 1) hx hb d_p6m2_310 (by decide) ?_
          refine lv_goto (tgt := 315) hx hb d_p6m2_311 (by decide) ?_
          simp only [e558, e539, e576] at q570
          simp only [e598, e539, e576] at q613
          refine W.eq (g2 := F0 m 315 ls [.int (pd_b true)]) rfl ?_
          exact pd_zret (v := true) X w ⟨by simp [gr_said, z5, q533, q570, q613], pd_kx.tr (pd_kx.tr (pd_kx.tr (k537) (k559)) (k574)) (k599)⟩ (by decide) (by decide) d_p6m2_315
  · -- default: 316
    refine lv_tableOut (tgt := 316) hx hb d_p6m2_8 (Or.inl (by rw [nI_toInt (by omega)]; omega)) (by decide) ?_
    obtain ⟨dd1, dd2, dd3, dd4, dd5, dd6, dd7, dd8, dd9, dd10⟩ : ¬ pd_map i = 1 ∧ ¬ pd_map i = 2 ∧ ¬ pd_map i = 3 ∧ ¬ pd_map i = 4 ∧ ¬ pd_map i = 5 ∧ ¬ pd_map i = 6 ∧ ¬ pd_map i = 7 ∧ ¬ pd_map i = 8 ∧ ¬ pd_map i = 9 ∧ ¬ pd_map i = 10 := by omega
    refine lv_aload_n hx hb d_p6m2_316 rfl (lv_at hl 0 rfl) ?_
    refine pd_get X w hxa rfl 1 (by decide) mT_543 rfl rfl d_p6m2_317 ?_
    refine lv_iconst (v := nI 2) hx hb d_p6m2_320 (by decide) ?_
    refine pd_jne (tgt := 339) hx hb d_p6m2_321 (by decide) (by omega) (by omega) (fun q614 => ?_) (fun q614 => ?_)
    · -- taken: 339
      refine lv_iconst (v := nI 0) hx hb d_p6m2_339 (by decide) ?_
      refine W.eq (g2 := F0 m 340 ls [.int (pd_b false)]) rfl ?_
      exact pd_zret (v := false) X w ⟨by simp [gr_said, dd1, dd2, dd3, dd4, dd5, dd6, dd7, dd8, dd9, dd10, q614], pd_kx.rf⟩ (by decide) (by decide) d_p6m2_340
    · -- not taken: 324
      refine lv_aload_n hx hb d_p6m2_324 rfl (lv_at hl 0 rfl) ?_
      refine lv_iconst (v := nI 1) hx hb d_p6m2_325 (by decide) ?_
      refine pd_cV (a := x) (As := [.int (nI 1)]) (rest := []) X w hxa rfl (c_Line_word l G h (by assumption) (by omega)) ok_Line_word ⟨mT_574, mT_575⟩ mT_634 ⟨by decide, by decide⟩ rfl hl.1 rfl (Nat.le_of_ble_eq_true rfl) d_p6m2_326 ⟨by decide, by decide⟩ (fun r615 h616 H locs hp617 w => ?_)
      refine W.widen (k := 2) (n := 64) (by decide) (by decide) ?_
      obtain ⟨k618, ds619, e620, f621⟩ := hp617
      have f629 := k618 _ _ hxa List.not_mem_nil
      have f630 := k618 _ _ hv1 List.not_mem_nil
      have f631 := k618 _ _ hst List.not_mem_nil
      have f632 := k618 _ _ hv2 List.not_mem_nil
      have f633 := k618 _ _ f1 List.not_mem_nil
      have f634 := hL.kx k618 List.not_mem_nil
      have f635 := hS.kx k618 List.not_mem_nil
      obtain ⟨v622, g623, f624, f625, gf626, gc627, gl628⟩ := id f621
      refine pd_cS (As := [.ref r615]) (rest := []) X w (c_Grammar_isName l G h616 (by assumption)) ok_Grammar_isName mT_636 mT_635 ⟨by decide, by decide⟩ rfl hl.1 rfl (Nat.le_of_ble_eq_true rfl) d_p6m2_329 ⟨by decide, by decide⟩ (fun r636 h637 H locs hp638 w => ?_)
      refine W.widen (k := 2) (n := 64) (by decide) (by decide) ?_
      obtain ⟨e639, rfl⟩ := hp638
      refine pd_beq (tgt := 339) hx hb d_p6m2_332 (by decide) (fun q640 => ?_) (fun q640 => ?_)
      · -- taken: 339
        refine lv_iconst (v := nI 0) hx hb d_p6m2_339 (by decide) ?_
        simp only [e639, e620] at q640
        refine W.eq (g2 := F0 m 340 ls [.int (pd_b false)]) rfl ?_
        exact pd_zret (v := false) X w ⟨by simp [gr_said, dd1, dd2, dd3, dd4, dd5, dd6, dd7, dd8, dd9, dd10, q614, q640], k618⟩ (by decide) (by decide) d_p6m2_340
      · -- not taken: 335
        refine lv_iconst (v := nI 1) hx hb d_p6m2_335 (by decide) ?_
        refine lv_goto (tgt := 340) hx hb d_p6m2_336 (by decide) ?_
        simp only [e639, e620] at q640
        refine W.eq (g2 := F0 m 340 ls [.int (pd_b true)]) rfl ?_
        exact pd_zret (v := true) X w ⟨by simp [gr_said, dd1, dd2, dd3, dd4, dd5, dd6, dd7, dd8, dd9, dd10, q614, q640], k618⟩ (by decide) (by decide) d_p6m2_340
  · -- default: 316
    refine lv_tableOut (tgt := 316) hx hb d_p6m2_8 (Or.inr (by rw [nI_toInt (by omega)]; omega)) (by decide) ?_
    obtain ⟨dd1, dd2, dd3, dd4, dd5, dd6, dd7, dd8, dd9, dd10⟩ : ¬ pd_map i = 1 ∧ ¬ pd_map i = 2 ∧ ¬ pd_map i = 3 ∧ ¬ pd_map i = 4 ∧ ¬ pd_map i = 5 ∧ ¬ pd_map i = 6 ∧ ¬ pd_map i = 7 ∧ ¬ pd_map i = 8 ∧ ¬ pd_map i = 9 ∧ ¬ pd_map i = 10 := by omega
    refine lv_aload_n hx hb d_p6m2_316 rfl (lv_at hl 0 rfl) ?_
    refine pd_get X w hxa rfl 1 (by decide) mT_543 rfl rfl d_p6m2_317 ?_
    refine lv_iconst (v := nI 2) hx hb d_p6m2_320 (by decide) ?_
    refine pd_jne (tgt := 339) hx hb d_p6m2_321 (by decide) (by omega) (by omega) (fun q641 => ?_) (fun q641 => ?_)
    · -- taken: 339
      refine lv_iconst (v := nI 0) hx hb d_p6m2_339 (by decide) ?_
      refine W.eq (g2 := F0 m 340 ls [.int (pd_b false)]) rfl ?_
      exact pd_zret (v := false) X w ⟨by simp [gr_said, dd1, dd2, dd3, dd4, dd5, dd6, dd7, dd8, dd9, dd10, q641], pd_kx.rf⟩ (by decide) (by decide) d_p6m2_340
    · -- not taken: 324
      refine lv_aload_n hx hb d_p6m2_324 rfl (lv_at hl 0 rfl) ?_
      refine lv_iconst (v := nI 1) hx hb d_p6m2_325 (by decide) ?_
      refine pd_cV (a := x) (As := [.int (nI 1)]) (rest := []) X w hxa rfl (c_Line_word l G h (by assumption) (by omega)) ok_Line_word ⟨mT_574, mT_575⟩ mT_634 ⟨by decide, by decide⟩ rfl hl.1 rfl (Nat.le_of_ble_eq_true rfl) d_p6m2_326 ⟨by decide, by decide⟩ (fun r642 h643 H locs hp644 w => ?_)
      refine W.widen (k := 2) (n := 64) (by decide) (by decide) ?_
      obtain ⟨k645, ds646, e647, f648⟩ := hp644
      have f656 := k645 _ _ hxa List.not_mem_nil
      have f657 := k645 _ _ hv1 List.not_mem_nil
      have f658 := k645 _ _ hst List.not_mem_nil
      have f659 := k645 _ _ hv2 List.not_mem_nil
      have f660 := k645 _ _ f1 List.not_mem_nil
      have f661 := hL.kx k645 List.not_mem_nil
      have f662 := hS.kx k645 List.not_mem_nil
      obtain ⟨v649, g650, f651, f652, gf653, gc654, gl655⟩ := id f648
      refine pd_cS (As := [.ref r642]) (rest := []) X w (c_Grammar_isName l G h643 (by assumption)) ok_Grammar_isName mT_636 mT_635 ⟨by decide, by decide⟩ rfl hl.1 rfl (Nat.le_of_ble_eq_true rfl) d_p6m2_329 ⟨by decide, by decide⟩ (fun r663 h664 H locs hp665 w => ?_)
      refine W.widen (k := 2) (n := 64) (by decide) (by decide) ?_
      obtain ⟨e666, rfl⟩ := hp665
      refine pd_beq (tgt := 339) hx hb d_p6m2_332 (by decide) (fun q667 => ?_) (fun q667 => ?_)
      · -- taken: 339
        refine lv_iconst (v := nI 0) hx hb d_p6m2_339 (by decide) ?_
        simp only [e666, e647] at q667
        refine W.eq (g2 := F0 m 340 ls [.int (pd_b false)]) rfl ?_
        exact pd_zret (v := false) X w ⟨by simp [gr_said, dd1, dd2, dd3, dd4, dd5, dd6, dd7, dd8, dd9, dd10, q641, q667], k645⟩ (by decide) (by decide) d_p6m2_340
      · -- not taken: 335
        refine lv_iconst (v := nI 1) hx hb d_p6m2_335 (by decide) ?_
        refine lv_goto (tgt := 340) hx hb d_p6m2_336 (by decide) ?_
        simp only [e666, e647] at q667
        refine W.eq (g2 := F0 m 340 ls [.int (pd_b true)]) rfl ?_
        exact pd_zret (v := true) X w ⟨by simp [gr_said, dd1, dd2, dd3, dd4, dd5, dd6, dd7, dd8, dd9, dd10, q641, q667], k645⟩ (by decide) (by decide) d_p6m2_340
