/-! THE LAW: both objects, the script to its end -/
def R_law : String := "PolicyDeskLaw"
def lw_P (b : Addr) (xs : List Int32) (args : Array Value) (s : State) : Prop := args = #[.ref b] ∧ s.IntsAt b xs ∧ xs.length ≤ 1536 ∧ (Jvm.Cond.and given_1 narrow_1).before args s = true
def lw_Q (_ : Array Value) (s : State) (o : Outcome) (t : State) : Prop := o = .returned (some (.int 1)) ∧ Framed s o t [] 600000 7302250
def lw_Z (below : List Frame) (a : Array Value) (s : State) : State → Prop := fun t => ∃ o, t.status = .running ∧ Ended t below o ∧ lw_Q a s o t
/-- the law's own end, with 1 on the stack, nothing written that was there before, its room as the claim has it -/
theorem lw_ret {p : Program} {l : Launch} {e : Env} {s : State} {m : MethodId} {below : List Frame} {meth : Method} {c : Code} {b : Nat} (hx : p.tables.exec = Jvm.exec) (hb : c.code = code) (hr : meth.sig.returnType = ret) (hlocks : meth.locks = false) {pc : Nat} {H : Heap} {ls : Array Slot} (hdg : decode code pc = .ok (.ireturn, 1)) : W p l e room_1 s m #[Value.ref b] below meth c H [] 600000 7302250 (lw_Z below #[Value.ref b] s) (F0 m pc ls [.int 1]) := by
  intro T hT X
  obtain ⟨fs, hret, hrun, hended, hW, hframe⟩ := X.leave (v := some (.int 1)) (hlocks := hlocks) (fun h => by rw [hr] at h; cases h)
  have hmeth' : T.vm.method? m = some meth := X.method'
  refine ⟨T.setFrames fs, ?_, .returned (some (.int 1)), hrun, hended, rfl, ⟨_, rfl⟩, hW, hframe⟩
  jvm_step X.here [X.here.top, hx, hb, hdg, hmeth', hr, ret, narrow_b1]
  (try refine ⟨rfl, ?_⟩); (try refine ⟨rfl, ?_⟩)
  first | (intro acts; rw [hret _ acts rfl rfl rfl]) | rw [hret _ _ rfl rfl rfl]
  exact Steps.refl _
/-- what holds at the law's entry: the machine, the code, the tables' words (any of lw_tbl by 'hts w (by decide +kernel)'), the script of L ints xs at the cell b, what the Statement gives of the start (any of its parts by flat_of_before) -/
def lw_At (p : Program) (s : State) (m : MethodId) (meth : Method) (c : Code) (b L : Nat) (xs : Nat → Int32) : Prop :=
  p.tables.exec = Jvm.exec ∧ c.code = code ∧ meth.sig.returnType = ret ∧ c.maxLocals = 4 ∧ s.vm.findClass R_law = some m.cls ∧ (∀ w ∈ lw_tbl, w.before #[Value.ref b] s = true) ∧ va_X b L xs s s.heap ∧ b < s.heap.size ∧ meth.locks = false ∧ (Jvm.Cond.and given_1 narrow_1).before #[Value.ref b] s = true
/-- both objects hold the same state -/
def pd_LS (G : pd_G) (h : pd_H) (x y : Nat) (z : pd_st) : Prop := ∃ (A B C : Nat → Nat) (ad : Nat → Nat) (fv : Nat → Nat → Int32) (iv : Nat → Int32) (tl : Int64), pd_DT G h x A B C z ∧ pd_MO G h y ad fv iv tl ∧ gm_ZT fv iv tl z ∧ gm_IT z
theorem pd_cmp_eq {a b : Int64} (h : a = b) : (if a > b then (1 : Int32) else if a == b then 0 else -1) = 0 := by
  subst h
  rw [if_neg (fun z : a > a => Int64.lt_irrefl z), if_pos (beq_self_eq_true a)]
theorem pd_l3 {L i : Nat} (h : ¬ 3 ≤ L) (hi : i < 2 ^ 31) : nI L - nI 3 < nI i := by
  rcases (show L = 0 ∨ L = 1 ∨ L = 2 by omega) with rfl | rfl | rfl
  · exact Int32.lt_of_lt_of_le (show nI 0 - nI 3 < 0 by decide) (nI_pos' hi)
  · exact Int32.lt_of_lt_of_le (show nI 1 - nI 3 < 0 by decide) (nI_pos' hi)
  · exact Int32.lt_of_lt_of_le (show nI 2 - nI 3 < 0 by decide) (nI_pos' hi)
theorem gr_do_an {cs : List Nat} {n : Nat} {R : Nat → pd_cr} {k : Nat} {M : Nat → pd_mr} {u : Nat} {U : Nat → pd_rr} {T : Nat → List Nat} {kp nx : Nat} {sp : Int64} {an gn sn dn : Nat} {v : Nat} (hv : v < 13) : (gr_do cs n R k M u U T kp nx sp an gn sn dn v).2.2.2.2.2.2.2.1 ≤ an + 1 := by
  rcases (show v = 0 ∨ v = 1 ∨ v = 2 ∨ v = 3 ∨ v = 4 ∨ v = 5 ∨ v = 6 ∨ v = 7 ∨ v = 8 ∨ v = 9 ∨ v = 10 ∨ v = 11 ∨ v = 12 by omega) with rfl | rfl | rfl | rfl | rfl | rfl | rfl | rfl | rfl | rfl | rfl | rfl | rfl <;> first | exact Nat.le_succ _ | exact Nat.le_refl _
theorem gr_line_an {cs : List Nat} {n : Nat} {R : Nat → pd_cr} {k : Nat} {M : Nat → pd_mr} {u : Nat} {U : Nat → pd_rr} {T : Nat → List Nat} {kp nx : Nat} {sp : Int64} {an gn sn dn : Nat} : (gr_line cs n R k M u U T kp nx sp an gn sn dn).2.2.2.2.2.2.2.1 ≤ an + 1 ∧ (gr_line cs n R k M u U T kp nx sp an gn sn dn).2.2.2.2.2.2.2.2.2.1 ≤ sn + 1 := by
  unfold gr_line
  split
  · exact ⟨Nat.le_succ _, Nat.le_refl _⟩
  · rename_i v hv
    split
    · exact ⟨gr_do_an (gr_verb_lt hv), by rw [(gr_do_sn (gr_verb_lt hv)).2]; exact Nat.le_succ _⟩
    · exact ⟨Nat.le_succ _, Nat.le_refl _⟩
theorem d_law_0 : decode code 0 = .ok (.new 7, 3) := by decide +kernel
theorem d_law_3 : decode code 3 = .ok (.dup, 1) := by decide +kernel
theorem d_law_4 : decode code 4 = .ok (.invokespecial 9, 3) := by decide +kernel
theorem d_law_7 : decode code 7 = .ok (.astore_n 1, 1) := by decide +kernel
theorem d_law_8 : decode code 8 = .ok (.new 10, 3) := by decide +kernel
theorem d_law_11 : decode code 11 = .ok (.dup, 1) := by decide +kernel
theorem d_law_12 : decode code 12 = .ok (.invokespecial 12, 3) := by decide +kernel
theorem d_law_15 : decode code 15 = .ok (.astore_n 2, 1) := by decide +kernel
theorem d_law_16 : decode code 16 = .ok (.iconst 0, 1) := by decide +kernel
theorem d_law_17 : decode code 17 = .ok (.istore_n 3, 1) := by decide +kernel
theorem d_law_18 : decode code 18 = .ok (.iload_n 3, 1) := by decide +kernel
theorem d_law_19 : decode code 19 = .ok (.aload_n 0, 1) := by decide +kernel
theorem d_law_20 : decode code 20 = .ok (.arraylength, 1) := by decide +kernel
theorem d_law_21 : decode code 21 = .ok (.iconst 3, 1) := by decide +kernel
theorem d_law_22 : decode code 22 = .ok (.isub, 1) := by decide +kernel
theorem d_law_23 : decode code 23 = .ok (.if_icmp .gt 315, 3) := by decide +kernel
theorem d_law_26 : decode code 26 = .ok (.aload_n 0, 1) := by decide +kernel
theorem d_law_27 : decode code 27 = .ok (.iload_n 3, 1) := by decide +kernel
theorem d_law_28 : decode code 28 = .ok (.iaload, 1) := by decide +kernel
theorem d_law_29 : decode code 29 = .ok (.bipush 15, 2) := by decide +kernel
theorem d_law_31 : decode code 31 = .ok (.iand, 1) := by decide +kernel
theorem d_law_32 : decode code 32 = .ok (.tableswitch 300 0 8 #[52, 105, 118, 131, 164, 197, 230, 263, 277], 52) := by decide +kernel
theorem d_law_84 : decode code 84 = .ok (.aload_n 1, 1) := by decide +kernel
theorem d_law_85 : decode code 85 = .ok (.aload_n 0, 1) := by decide +kernel
theorem d_law_86 : decode code 86 = .ok (.iload_n 3, 1) := by decide +kernel
theorem d_law_87 : decode code 87 = .ok (.iconst 1, 1) := by decide +kernel
theorem d_law_88 : decode code 88 = .ok (.iadd, 1) := by decide +kernel
theorem d_law_89 : decode code 89 = .ok (.iaload, 1) := by decide +kernel
theorem d_law_90 : decode code 90 = .ok (.i2l, 1) := by decide +kernel
theorem d_law_91 : decode code 91 = .ok (.bipush 32, 2) := by decide +kernel
theorem d_law_93 : decode code 93 = .ok (.lshl, 1) := by decide +kernel
theorem d_law_94 : decode code 94 = .ok (.aload_n 0, 1) := by decide +kernel
theorem d_law_95 : decode code 95 = .ok (.iload_n 3, 1) := by decide +kernel
theorem d_law_96 : decode code 96 = .ok (.iconst 2, 1) := by decide +kernel
theorem d_law_97 : decode code 97 = .ok (.iadd, 1) := by decide +kernel
theorem d_law_98 : decode code 98 = .ok (.iaload, 1) := by decide +kernel
theorem d_law_99 : decode code 99 = .ok (.i2l, 1) := by decide +kernel
theorem d_law_100 : decode code 100 = .ok (.ldc2_w 13, 3) := by decide +kernel
theorem d_law_103 : decode code 103 = .ok (.land, 1) := by decide +kernel
theorem d_law_104 : decode code 104 = .ok (.lor, 1) := by decide +kernel
theorem d_law_105 : decode code 105 = .ok (.invokevirtual 15, 3) := by decide +kernel
theorem d_law_108 : decode code 108 = .ok (.aload_n 2, 1) := by decide +kernel
theorem d_law_109 : decode code 109 = .ok (.aload_n 0, 1) := by decide +kernel
theorem d_law_110 : decode code 110 = .ok (.iload_n 3, 1) := by decide +kernel
theorem d_law_111 : decode code 111 = .ok (.iconst 1, 1) := by decide +kernel
theorem d_law_112 : decode code 112 = .ok (.iadd, 1) := by decide +kernel
theorem d_law_113 : decode code 113 = .ok (.iaload, 1) := by decide +kernel
theorem d_law_114 : decode code 114 = .ok (.i2l, 1) := by decide +kernel
theorem d_law_115 : decode code 115 = .ok (.bipush 32, 2) := by decide +kernel
theorem d_law_117 : decode code 117 = .ok (.lshl, 1) := by decide +kernel
theorem d_law_118 : decode code 118 = .ok (.aload_n 0, 1) := by decide +kernel
theorem d_law_119 : decode code 119 = .ok (.iload_n 3, 1) := by decide +kernel
theorem d_law_120 : decode code 120 = .ok (.iconst 2, 1) := by decide +kernel
theorem d_law_121 : decode code 121 = .ok (.iadd, 1) := by decide +kernel
theorem d_law_122 : decode code 122 = .ok (.iaload, 1) := by decide +kernel
theorem d_law_123 : decode code 123 = .ok (.i2l, 1) := by decide +kernel
theorem d_law_124 : decode code 124 = .ok (.ldc2_w 13, 3) := by decide +kernel
theorem d_law_127 : decode code 127 = .ok (.land, 1) := by decide +kernel
theorem d_law_128 : decode code 128 = .ok (.lor, 1) := by decide +kernel
theorem d_law_129 : decode code 129 = .ok (.invokevirtual 19, 3) := by decide +kernel
theorem d_law_132 : decode code 132 = .ok (.if_icmp .eq 200, 3) := by decide +kernel
theorem d_law_135 : decode code 135 = .ok (.iconst 0, 1) := by decide +kernel
theorem d_law_136 : decode code 136 = .ok (.ireturn, 1) := by decide +kernel
theorem d_law_137 : decode code 137 = .ok (.aload_n 1, 1) := by decide +kernel
theorem d_law_138 : decode code 138 = .ok (.invokevirtual 20, 3) := by decide +kernel
theorem d_law_141 : decode code 141 = .ok (.aload_n 2, 1) := by decide +kernel
theorem d_law_142 : decode code 142 = .ok (.invokevirtual 24, 3) := by decide +kernel
theorem d_law_145 : decode code 145 = .ok (.if_icmp .eq 187, 3) := by decide +kernel
theorem d_law_148 : decode code 148 = .ok (.iconst 0, 1) := by decide +kernel
theorem d_law_149 : decode code 149 = .ok (.ireturn, 1) := by decide +kernel
theorem d_law_150 : decode code 150 = .ok (.aload_n 1, 1) := by decide +kernel
theorem d_law_151 : decode code 151 = .ok (.invokevirtual 25, 3) := by decide +kernel
theorem d_law_154 : decode code 154 = .ok (.aload_n 2, 1) := by decide +kernel
theorem d_law_155 : decode code 155 = .ok (.invokevirtual 28, 3) := by decide +kernel
theorem d_law_158 : decode code 158 = .ok (.if_icmp .eq 174, 3) := by decide +kernel
theorem d_law_161 : decode code 161 = .ok (.iconst 0, 1) := by decide +kernel
theorem d_law_162 : decode code 162 = .ok (.ireturn, 1) := by decide +kernel
theorem d_law_163 : decode code 163 = .ok (.aload_n 1, 1) := by decide +kernel
theorem d_law_164 : decode code 164 = .ok (.aload_n 0, 1) := by decide +kernel
theorem d_law_165 : decode code 165 = .ok (.iload_n 3, 1) := by decide +kernel
theorem d_law_166 : decode code 166 = .ok (.iconst 1, 1) := by decide +kernel
theorem d_law_167 : decode code 167 = .ok (.iadd, 1) := by decide +kernel
theorem d_law_168 : decode code 168 = .ok (.iaload, 1) := by decide +kernel
theorem d_law_169 : decode code 169 = .ok (.aload_n 0, 1) := by decide +kernel
theorem d_law_170 : decode code 170 = .ok (.iload_n 3, 1) := by decide +kernel
theorem d_law_171 : decode code 171 = .ok (.iconst 2, 1) := by decide +kernel
theorem d_law_172 : decode code 172 = .ok (.iadd, 1) := by decide +kernel
theorem d_law_173 : decode code 173 = .ok (.iaload, 1) := by decide +kernel
theorem d_law_174 : decode code 174 = .ok (.invokevirtual 29, 3) := by decide +kernel
theorem d_law_177 : decode code 177 = .ok (.aload_n 2, 1) := by decide +kernel
theorem d_law_178 : decode code 178 = .ok (.aload_n 0, 1) := by decide +kernel
theorem d_law_179 : decode code 179 = .ok (.iload_n 3, 1) := by decide +kernel
theorem d_law_180 : decode code 180 = .ok (.iconst 1, 1) := by decide +kernel
theorem d_law_181 : decode code 181 = .ok (.iadd, 1) := by decide +kernel
theorem d_law_182 : decode code 182 = .ok (.iaload, 1) := by decide +kernel
theorem d_law_183 : decode code 183 = .ok (.aload_n 0, 1) := by decide +kernel
theorem d_law_184 : decode code 184 = .ok (.iload_n 3, 1) := by decide +kernel
theorem d_law_185 : decode code 185 = .ok (.iconst 2, 1) := by decide +kernel
theorem d_law_186 : decode code 186 = .ok (.iadd, 1) := by decide +kernel
theorem d_law_187 : decode code 187 = .ok (.iaload, 1) := by decide +kernel
theorem d_law_188 : decode code 188 = .ok (.invokevirtual 33, 3) := by decide +kernel
theorem d_law_191 : decode code 191 = .ok (.if_icmp .eq 141, 3) := by decide +kernel
theorem d_law_194 : decode code 194 = .ok (.iconst 0, 1) := by decide +kernel
theorem d_law_195 : decode code 195 = .ok (.ireturn, 1) := by decide +kernel
theorem d_law_196 : decode code 196 = .ok (.aload_n 1, 1) := by decide +kernel
theorem d_law_197 : decode code 197 = .ok (.aload_n 0, 1) := by decide +kernel
theorem d_law_198 : decode code 198 = .ok (.iload_n 3, 1) := by decide +kernel
theorem d_law_199 : decode code 199 = .ok (.iconst 1, 1) := by decide +kernel
theorem d_law_200 : decode code 200 = .ok (.iadd, 1) := by decide +kernel
theorem d_law_201 : decode code 201 = .ok (.iaload, 1) := by decide +kernel
theorem d_law_202 : decode code 202 = .ok (.aload_n 0, 1) := by decide +kernel
theorem d_law_203 : decode code 203 = .ok (.iload_n 3, 1) := by decide +kernel
theorem d_law_204 : decode code 204 = .ok (.iconst 2, 1) := by decide +kernel
theorem d_law_205 : decode code 205 = .ok (.iadd, 1) := by decide +kernel
theorem d_law_206 : decode code 206 = .ok (.iaload, 1) := by decide +kernel
theorem d_law_207 : decode code 207 = .ok (.invokevirtual 34, 3) := by decide +kernel
theorem d_law_210 : decode code 210 = .ok (.aload_n 2, 1) := by decide +kernel
theorem d_law_211 : decode code 211 = .ok (.aload_n 0, 1) := by decide +kernel
theorem d_law_212 : decode code 212 = .ok (.iload_n 3, 1) := by decide +kernel
theorem d_law_213 : decode code 213 = .ok (.iconst 1, 1) := by decide +kernel
theorem d_law_214 : decode code 214 = .ok (.iadd, 1) := by decide +kernel
theorem d_law_215 : decode code 215 = .ok (.iaload, 1) := by decide +kernel
theorem d_law_216 : decode code 216 = .ok (.aload_n 0, 1) := by decide +kernel
theorem d_law_217 : decode code 217 = .ok (.iload_n 3, 1) := by decide +kernel
theorem d_law_218 : decode code 218 = .ok (.iconst 2, 1) := by decide +kernel
theorem d_law_219 : decode code 219 = .ok (.iadd, 1) := by decide +kernel
theorem d_law_220 : decode code 220 = .ok (.iaload, 1) := by decide +kernel
theorem d_law_221 : decode code 221 = .ok (.invokevirtual 37, 3) := by decide +kernel
theorem d_law_224 : decode code 224 = .ok (.if_icmp .eq 108, 3) := by decide +kernel
theorem d_law_227 : decode code 227 = .ok (.iconst 0, 1) := by decide +kernel
theorem d_law_228 : decode code 228 = .ok (.ireturn, 1) := by decide +kernel
theorem d_law_229 : decode code 229 = .ok (.aload_n 1, 1) := by decide +kernel
theorem d_law_230 : decode code 230 = .ok (.aload_n 0, 1) := by decide +kernel
theorem d_law_231 : decode code 231 = .ok (.iload_n 3, 1) := by decide +kernel
theorem d_law_232 : decode code 232 = .ok (.iconst 1, 1) := by decide +kernel
theorem d_law_233 : decode code 233 = .ok (.iadd, 1) := by decide +kernel
theorem d_law_234 : decode code 234 = .ok (.iaload, 1) := by decide +kernel
theorem d_law_235 : decode code 235 = .ok (.aload_n 0, 1) := by decide +kernel
theorem d_law_236 : decode code 236 = .ok (.iload_n 3, 1) := by decide +kernel
theorem d_law_237 : decode code 237 = .ok (.iconst 2, 1) := by decide +kernel
theorem d_law_238 : decode code 238 = .ok (.iadd, 1) := by decide +kernel
theorem d_law_239 : decode code 239 = .ok (.iaload, 1) := by decide +kernel
theorem d_law_240 : decode code 240 = .ok (.invokevirtual 38, 3) := by decide +kernel
theorem d_law_243 : decode code 243 = .ok (.aload_n 2, 1) := by decide +kernel
theorem d_law_244 : decode code 244 = .ok (.aload_n 0, 1) := by decide +kernel
theorem d_law_245 : decode code 245 = .ok (.iload_n 3, 1) := by decide +kernel
theorem d_law_246 : decode code 246 = .ok (.iconst 1, 1) := by decide +kernel
theorem d_law_247 : decode code 247 = .ok (.iadd, 1) := by decide +kernel
theorem d_law_248 : decode code 248 = .ok (.iaload, 1) := by decide +kernel
theorem d_law_249 : decode code 249 = .ok (.aload_n 0, 1) := by decide +kernel
theorem d_law_250 : decode code 250 = .ok (.iload_n 3, 1) := by decide +kernel
theorem d_law_251 : decode code 251 = .ok (.iconst 2, 1) := by decide +kernel
theorem d_law_252 : decode code 252 = .ok (.iadd, 1) := by decide +kernel
theorem d_law_253 : decode code 253 = .ok (.iaload, 1) := by decide +kernel
theorem d_law_254 : decode code 254 = .ok (.invokevirtual 41, 3) := by decide +kernel
theorem d_law_257 : decode code 257 = .ok (.if_icmp .eq 75, 3) := by decide +kernel
theorem d_law_260 : decode code 260 = .ok (.iconst 0, 1) := by decide +kernel
theorem d_law_261 : decode code 261 = .ok (.ireturn, 1) := by decide +kernel
theorem d_law_262 : decode code 262 = .ok (.aload_n 1, 1) := by decide +kernel
theorem d_law_263 : decode code 263 = .ok (.aload_n 0, 1) := by decide +kernel
theorem d_law_264 : decode code 264 = .ok (.iload_n 3, 1) := by decide +kernel
theorem d_law_265 : decode code 265 = .ok (.iconst 1, 1) := by decide +kernel
theorem d_law_266 : decode code 266 = .ok (.iadd, 1) := by decide +kernel
theorem d_law_267 : decode code 267 = .ok (.iaload, 1) := by decide +kernel
theorem d_law_268 : decode code 268 = .ok (.aload_n 0, 1) := by decide +kernel
theorem d_law_269 : decode code 269 = .ok (.iload_n 3, 1) := by decide +kernel
theorem d_law_270 : decode code 270 = .ok (.iconst 2, 1) := by decide +kernel
theorem d_law_271 : decode code 271 = .ok (.iadd, 1) := by decide +kernel
theorem d_law_272 : decode code 272 = .ok (.iaload, 1) := by decide +kernel
theorem d_law_273 : decode code 273 = .ok (.invokevirtual 42, 3) := by decide +kernel
theorem d_law_276 : decode code 276 = .ok (.aload_n 2, 1) := by decide +kernel
theorem d_law_277 : decode code 277 = .ok (.aload_n 0, 1) := by decide +kernel
theorem d_law_278 : decode code 278 = .ok (.iload_n 3, 1) := by decide +kernel
theorem d_law_279 : decode code 279 = .ok (.iconst 1, 1) := by decide +kernel
theorem d_law_280 : decode code 280 = .ok (.iadd, 1) := by decide +kernel
theorem d_law_281 : decode code 281 = .ok (.iaload, 1) := by decide +kernel
theorem d_law_282 : decode code 282 = .ok (.aload_n 0, 1) := by decide +kernel
theorem d_law_283 : decode code 283 = .ok (.iload_n 3, 1) := by decide +kernel
theorem d_law_284 : decode code 284 = .ok (.iconst 2, 1) := by decide +kernel
theorem d_law_285 : decode code 285 = .ok (.iadd, 1) := by decide +kernel
theorem d_law_286 : decode code 286 = .ok (.iaload, 1) := by decide +kernel
theorem d_law_287 : decode code 287 = .ok (.invokevirtual 45, 3) := by decide +kernel
theorem d_law_290 : decode code 290 = .ok (.if_icmp .eq 42, 3) := by decide +kernel
theorem d_law_293 : decode code 293 = .ok (.iconst 0, 1) := by decide +kernel
theorem d_law_294 : decode code 294 = .ok (.ireturn, 1) := by decide +kernel
theorem d_law_295 : decode code 295 = .ok (.aload_n 1, 1) := by decide +kernel
theorem d_law_296 : decode code 296 = .ok (.invokevirtual 46, 3) := by decide +kernel
theorem d_law_299 : decode code 299 = .ok (.aload_n 2, 1) := by decide +kernel
theorem d_law_300 : decode code 300 = .ok (.invokevirtual 50, 3) := by decide +kernel
theorem d_law_303 : decode code 303 = .ok (.lcmp, 1) := by decide +kernel
theorem d_law_304 : decode code 304 = .ok (.ifCond .eq 28, 3) := by decide +kernel
theorem d_law_307 : decode code 307 = .ok (.iconst 0, 1) := by decide +kernel
theorem d_law_308 : decode code 308 = .ok (.ireturn, 1) := by decide +kernel
theorem d_law_309 : decode code 309 = .ok (.aload_n 1, 1) := by decide +kernel
theorem d_law_310 : decode code 310 = .ok (.aload_n 0, 1) := by decide +kernel
theorem d_law_311 : decode code 311 = .ok (.iload_n 3, 1) := by decide +kernel
theorem d_law_312 : decode code 312 = .ok (.iconst 1, 1) := by decide +kernel
theorem d_law_313 : decode code 313 = .ok (.iadd, 1) := by decide +kernel
theorem d_law_314 : decode code 314 = .ok (.iaload, 1) := by decide +kernel
theorem d_law_315 : decode code 315 = .ok (.invokevirtual 51, 3) := by decide +kernel
theorem d_law_318 : decode code 318 = .ok (.aload_n 2, 1) := by decide +kernel
theorem d_law_319 : decode code 319 = .ok (.aload_n 0, 1) := by decide +kernel
theorem d_law_320 : decode code 320 = .ok (.iload_n 3, 1) := by decide +kernel
theorem d_law_321 : decode code 321 = .ok (.iconst 1, 1) := by decide +kernel
theorem d_law_322 : decode code 322 = .ok (.iadd, 1) := by decide +kernel
theorem d_law_323 : decode code 323 = .ok (.iaload, 1) := by decide +kernel
theorem d_law_324 : decode code 324 = .ok (.invokevirtual 55, 3) := by decide +kernel
theorem d_law_327 : decode code 327 = .ok (.if_icmp .eq 5, 3) := by decide +kernel
theorem d_law_330 : decode code 330 = .ok (.iconst 0, 1) := by decide +kernel
theorem d_law_331 : decode code 331 = .ok (.ireturn, 1) := by decide +kernel
theorem d_law_332 : decode code 332 = .ok (.iinc 3 3, 3) := by decide +kernel
theorem d_law_335 : decode code 335 = .ok (.goto (-317), 3) := by decide +kernel
theorem d_law_338 : decode code 338 = .ok (.iconst 1, 1) := by decide +kernel
theorem d_law_339 : decode code 339 = .ok (.ireturn, 1) := by decide +kernel
set_option maxHeartbeats 4000000 in
set_option maxRecDepth 100000 in
theorem law_loop {p : Program} {e : Env} {s : State} {m : MethodId} {below : List Frame} {meth : Method} {c : Code} (l : Launch) {b L : Nat} {G : pd_G} {f : Nat → Int32} {x y : Nat} (hL : L ≤ 1536) (hGs : G.2.1 = s.heap.size) (X : pd_B p s m [Value.ref b].toArray meth c G "PolicyDeskLaw" code 4 (some .boolean)) (hfb : G.2.2.1 b = some (0, .inl (.int, L, .inl f))) :
    ∀ (kk9 ii sc ss : Nat) (hh : pd_H) (z : pd_st), pd_LS G hh x y z → (3 * z.2.2.2.2.2.2.1 ≤ ii ∧ 3 * z.2.2.2.2.2.2.2.2.1 ≤ ii) → ii ≤ 1536 → sc ≤ 1000 + 69 * ii → ss ≤ 20000 + 2140 * ii → 1540 - ii < kk9 → ∀ (H : Heap) (locs : List Loc), pd_w G s H locs hh → ∀ ls : Array Slot, lv_has ls 4 [(3, .int (nI ii)), (2, .ref y), (1, .ref x), (0, .ref b)] → W p l e room_1 s m [Value.ref b].toArray below meth c H locs sc ss (lw_Z below [Value.ref b].toArray s) (F0 m 18 ls []) := by
  have hx := X.1
  have hb := X.2.1
  intro kk9
  induction kk9 with
  | zero => intros; omega
  | succ kk9 ih =>
    intro ii sc ss hh z hS han hii hsc hss hmu H locs w ls hl
    obtain ⟨A, B, C, ad, fv, iv, tl, hD, hMO, hZ, hIT⟩ := hS
    obtain ⟨t0, ⟨n, R⟩, ⟨k, M⟩, ⟨u, U⟩, ⟨T, kp, nx⟩, sp, an, gn, sn, dn⟩ := z
    have hD : pd_DX G hh x A B C t0 n R k M u U T kp nx sp an gn sn dn := hD
    obtain ⟨hZL, hZ5, hZR⟩ := hZ
    have hZL : gm_L fv iv t0 := hZL
    have hZ5 : iv 5 = nI sn := hZ5
    have hZR : gm_R fv iv tl n R k M u U T kp nx sp an gn dn := hZR
    have hkp := hZR.2.2.2.2.2.2.2.2.1
    have hnx := hZR.2.2.2.2.2.2.2.2.2
    obtain ⟨h2n, hI⟩ := hIT
    have h2n : 2 ≤ n := h2n
    have hI : gm_I n R k u U := hI
    have han : 3 * an ≤ ii ∧ 3 * sn ≤ ii := han
    obtain ⟨lb, cl, me, ru, bk, hx5, hDr⟩ := id hD
    have hy5 : hh y = some (20, .inr (10, [.ref (ad 0), .ref (ad 1), .ref (ad 2), .int (iv 3), .int (iv 4), .int (iv 5), .ref (ad 6), .ref (ad 7), .ref (ad 8), .ref (ad 9), .ref (ad 10), .ref (ad 11), .int (iv 12), .ref (ad 13), .ref (ad 14), .ref (ad 15), .ref (ad 16), .ref (ad 17), .ref (ad 18), .ref (ad 19), .int (iv 20), .ref (ad 21), .ref (ad 22), .ref (ad 23), .ref (ad 24), .ref (ad 25), .ref (ad 26), .ref (ad 27), .ref (ad 28), .int (iv 29), .ref (ad 30), .ref (ad 31), .int (iv 32), .int (iv 33), .int (iv 34), .int (iv 35), .long tl, .int (iv 37), .int (iv 38), .int (iv 39), .int (iv 40), .ref (ad 41), .ref (ad 42), .int (iv 43)])) := hMO.1
    have hb5 : hh b = some (0, .inl (.int, L, .inl f)) := w.2.1 b _ hfb
    refine lv_iload_n hx hb d_law_18 rfl (lv_at hl 0 rfl) ?_
    refine lv_aload_n hx hb d_law_19 rfl (lv_at hl 3 rfl) ?_
    refine pd_alen X w hb5 d_law_20 ?_
    refine lv_iconst (v := nI 3) hx hb d_law_21 (by decide) ?_
    by_cases h3 : 3 ≤ L
    · -- three or more
      refine pd_isub hx hb d_law_22 h3 ?_
      refine pd_jgt (tgt := 338) hx hb d_law_23 (by decide) (by omega) (by omega) (fun q1 => ?_) (fun q1 => ?_)
      · -- taken: 338
        refine lv_iconst (v := 1) hx hb d_law_338 (by decide) ?_
        refine va_forget (fun q hq => by have z := w.2.2.2.2 q hq; rw [hGs] at z; exact z) ?_
        refine W.widen (k := 600000) (n := 7302250) (by omega) (by omega) ?_
        exact lw_ret hx hb X.2.2.1 X.2.2.2.2.2.2.1 d_law_339
      · -- not taken: 26
        refine lv_aload_n hx hb d_law_26 rfl (lv_at hl 3 rfl) ?_
        refine lv_iload_n hx hb d_law_27 rfl (lv_at hl 0 rfl) ?_
        refine pd_iald X w hb5 (by omega) (by omega) d_law_28 ?_
        refine lv_bipush (v := nI 15) hx hb d_law_29 (by decide) ?_
        refine lv_iand hx hb d_law_31 ?_
        by_cases z3 : ((f ii) &&& (nI 15)) = nI 0
        · -- case 0: 84
          refine lv_tableIn (tgt := 84) hx hb d_law_32 (by rw [z3]; decide) (by rw [z3]; decide) (by rw [z3]; rfl) (by decide) ?_
          refine lv_aload_n hx hb d_law_84 rfl (lv_at hl 2 rfl) ?_
          refine lv_aload_n hx hb d_law_85 rfl (lv_at hl 3 rfl) ?_
          refine lv_iload_n hx hb d_law_86 rfl (lv_at hl 0 rfl) ?_
          refine lv_iconst (v := nI 1) hx hb d_law_87 (by decide) ?_
          refine pd_iadd hx hb d_law_88 ?_
          refine pd_iald X w hb5 (by omega) (by omega) d_law_89 ?_
          refine lv_i2l hx hb d_law_90 rfl ?_
          refine lv_bipush (v := nI 32) hx hb d_law_91 (by decide) ?_
          refine lv_lshl hx hb d_law_93 rfl ?_
          refine lv_aload_n hx hb d_law_94 rfl (lv_at hl 3 rfl) ?_
          refine lv_iload_n hx hb d_law_95 rfl (lv_at hl 0 rfl) ?_
          refine lv_iconst (v := nI 2) hx hb d_law_96 (by decide) ?_
          refine pd_iadd hx hb d_law_97 ?_
          refine pd_iald X w hb5 (by omega) (by omega) d_law_98 ?_
          refine lv_i2l hx hb d_law_99 rfl ?_
          refine lv_ldc2 (v := 4294967295) hx hb X.2.2.2.2.1 (X.2.2.2.2.2.1 _ mT_1479) d_law_100 ?_
          refine lv_land hx hb d_law_103 ?_
          refine lv_lor hx hb d_law_104 ?_
          refine pd_cV (a := x) (As := [.long ((((f (ii + 1)).toInt64) <<< ((nI 32).toInt64 &&& 63)) ||| (((f (ii + 2)).toInt64) &&& 4294967295))]) (rest := []) X w hx5 rfl (c_PolicyDesk_text l G hh (A := A) (B := B) (C := C) (t0 := t0) (n := n) (R := R) (k := k) (M := M) (u := u) (U := U) (T := T) (kp := kp) (nx := nx) (sp := sp) (an := an) (gn := gn) (sn := sn) (dn := dn) hD) ok_PolicyDesk_text ⟨mT_399, mT_400⟩ mT_398 ⟨by decide, by decide⟩ rfl hl.1 rfl (Nat.le_of_ble_eq_true rfl) d_law_105 ⟨Nat.le_trans (m := 600000) (by show sc + 8 ≤ 600000; omega) (by decide), Nat.le_trans (m := 7302250) (by show ss + 1600 ≤ 7302250; omega) (by decide)⟩ (fun r4 h5 H locs hp6 w => ?_)
          refine W.widen (k := sc + 8) (n := ss + 1600) (by show sc + 8 ≤ sc + 8; omega) (by show ss + 1600 ≤ ss + 1600; omega) ?_
          obtain ⟨e7, k8, hD9⟩ := hp6
          have f10 := k8 _ _ hx5 (show (5 : Nat) ∉ [1, 2] by decide)
          have f11 := k8 _ _ hy5 (show (20 : Nat) ∉ [1, 2] by decide)
          have f12 := k8 _ _ hb5 (show (0 : Nat) ∉ [1, 2] by decide)
          have mo13 : pd_MO G h5 y ad fv iv tl := hMO.kx k8 (by decide)
          refine lv_aload_n hx hb d_law_108 rfl (lv_at hl 1 rfl) ?_
          refine lv_aload_n hx hb d_law_109 rfl (lv_at hl 3 rfl) ?_
          refine lv_iload_n hx hb d_law_110 rfl (lv_at hl 0 rfl) ?_
          refine lv_iconst (v := nI 1) hx hb d_law_111 (by decide) ?_
          refine pd_iadd hx hb d_law_112 ?_
          refine pd_iald X w f12 (by omega) (by omega) d_law_113 ?_
          refine lv_i2l hx hb d_law_114 rfl ?_
          refine lv_bipush (v := nI 32) hx hb d_law_115 (by decide) ?_
          refine lv_lshl hx hb d_law_117 rfl ?_
          refine lv_aload_n hx hb d_law_118 rfl (lv_at hl 3 rfl) ?_
          refine lv_iload_n hx hb d_law_119 rfl (lv_at hl 0 rfl) ?_
          refine lv_iconst (v := nI 2) hx hb d_law_120 (by decide) ?_
          refine pd_iadd hx hb d_law_121 ?_
          refine pd_iald X w f12 (by omega) (by omega) d_law_122 ?_
          refine lv_i2l hx hb d_law_123 rfl ?_
          refine lv_ldc2 (v := 4294967295) hx hb X.2.2.2.2.1 (X.2.2.2.2.2.1 _ mT_1479) d_law_124 ?_
          refine lv_land hx hb d_law_127 ?_
          refine lv_lor hx hb d_law_128 ?_
          refine pd_cV (a := y) (As := [.long ((((f (ii + 1)).toInt64) <<< ((nI 32).toInt64 &&& 63)) ||| (((f (ii + 2)).toInt64) &&& 4294967295))]) (rest := [.int r4]) X w f11 rfl (c_Mod_text l G h5 (ad := ad) (fv := fv) (iv := iv) (tl := tl) (cs := t0) mo13 hZL) ok_Mod_text ⟨mT_1274, mT_1275⟩ mT_1273 ⟨by decide, by decide⟩ rfl hl.1 rfl (Nat.le_of_ble_eq_true rfl) d_law_129 ⟨Nat.le_trans (m := 600000) (by show sc + 8 + 0 ≤ 600000; omega) (by decide), Nat.le_trans (m := 7302250) (by show ss + 1600 + 0 ≤ 7302250; omega) (by decide)⟩ (fun r14 h15 H locs hp16 w => ?_)
          refine W.widen (k := sc + 8) (n := ss + 1600) (by show sc + 8 + 0 ≤ sc + 8; omega) (by show ss + 1600 + 0 ≤ ss + 1600; omega) ?_
          obtain ⟨e17, k18, fz20, vz21, mo19, hL22⟩ := hp16
          have f23 := k18 _ _ f10 (show (5 : Nat) ∉ [20, 30] by decide)
          have f24 := k18 _ _ f12 (show (0 : Nat) ∉ [20, 30] by decide)
          refine lv_icmp_eq (tgt := 332) hx hb d_law_132 (by decide) (fun q25 => ?_) (fun q25 => ?_)
          · -- taken: 332
            refine pd_iinc (k := 0) (d := 3) (lv' := [(3, .int (nI (ii + 3))), (2, .ref y), (1, .ref x), (0, .ref b)]) hx hb d_law_332 (by decide) hl rfl (by decide) rfl (fun ls hl => ?_)
            refine lv_goto (tgt := 18) hx hb d_law_335 (by decide) ?_
            exact ih (ii + 3) (sc + 8) (ss + 1600) h15 ((gr_text t0 ((((f (ii + 1)).toInt64) <<< ((nI 32).toInt64 &&& 63)) ||| (((f (ii + 2)).toInt64) &&& 4294967295))).2, (n, R), (k, M), (u, U), (T, kp, nx), sp, an, gn, sn, dn) ⟨A, B, C, _, _, _, _, pd_DX.kx hD9 (k18) (by decide), mo19, ⟨hL22, hZ5, gm_R_0 hZR ⟨fun j hj => by simp at hj; simp [pd_fu, hj], fun j hj => by simp at hj; simp [pd_fu, hj]⟩⟩, ⟨h2n, hI⟩⟩ ⟨by show 3 * an ≤ ii + 3; omega, by show 3 * sn ≤ ii + 3; omega⟩ (by omega) (by omega) (by omega) (by omega) _ _ w ls (lv_sub hl [0, 1, 2, 3] rfl)
          · -- not taken: 135
            exact absurd (e7.trans e17.symm) q25
        by_cases z26 : ((f ii) &&& (nI 15)) = nI 1
        · -- case 1: 137
          refine lv_tableIn (tgt := 137) hx hb d_law_32 (by rw [z26]; decide) (by rw [z26]; decide) (by rw [z26]; rfl) (by decide) ?_
          refine lv_aload_n hx hb d_law_137 rfl (lv_at hl 2 rfl) ?_
          refine pd_cV (a := x) (As := []) (rest := []) X w hx5 rfl (c_PolicyDesk_line l G hh (A := A) (B := B) (C := C) (t0 := t0) (n := n) (R := R) (k := k) (M := M) (u := u) (U := U) (T := T) (kp := kp) (nx := nx) (sp := sp) (an := an) (gn := gn) (sn := sn) (dn := dn) hD (by omega)) ok_PolicyDesk_line ⟨mT_476, mT_477⟩ mT_475 ⟨by decide, by decide⟩ rfl hl.1 rfl (Nat.le_of_ble_eq_true rfl) d_law_138 ⟨Nat.le_trans (m := 600000) (by show sc + 207 ≤ 600000; omega) (by decide), Nat.le_trans (m := 7302250) (by show ss + 6418 ≤ 7302250; omega) (by decide)⟩ (fun r27 h28 H locs hp29 w => ?_)
          refine W.widen (k := sc + 207) (n := ss + 6418) (by show sc + 207 ≤ sc + 207; omega) (by show ss + 6418 ≤ ss + 6418; omega) ?_
          obtain ⟨e30, k31, A33, B34, C35, hD32⟩ := hp29
          have f36 := k31 _ _ hy5 (show (20 : Nat) ∉ [1, 2, 3, 4, 5, 6, 7, 8, 9, 10, 11, 12, 13, 14, 15, 16, 17, 18, 19] by decide)
          have f37 := k31 _ _ hb5 (show (0 : Nat) ∉ [1, 2, 3, 4, 5, 6, 7, 8, 9, 10, 11, 12, 13, 14, 15, 16, 17, 18, 19] by decide)
          have mo38 : pd_MO G h28 y ad fv iv tl := hMO.kx k31 (by decide)
          refine lv_aload_n hx hb d_law_141 rfl (lv_at hl 1 rfl) ?_
          refine pd_cV (a := y) (As := []) (rest := [.int r27]) X w f36 rfl (c_Mod_line l G h28 (ad := ad) (fv := fv) (iv := iv) (tl := tl) (cs := t0) (n := n) (R := R) (k := k) (M := M) (u := u) (U := U) (T := T) (kp := kp) (nx := nx) (sp := sp) (an := an) (gn := gn) (sn := sn) (dn := dn) mo38 hZL hZR hI (by omega) hZ5 (by omega)) ok_Mod_line ⟨mT_1285, mT_1286⟩ mT_1284 ⟨by decide, by decide⟩ rfl hl.1 rfl (Nat.le_of_ble_eq_true rfl) d_law_142 ⟨Nat.le_trans (m := 600000) (by show sc + 207 + 0 ≤ 600000; omega) (by decide), Nat.le_trans (m := 7302250) (by show ss + 6418 + 0 ≤ 7302250; omega) (by decide)⟩ (fun r39 h40 H locs hp41 w => ?_)
          refine W.widen (k := sc + 207) (n := ss + 6418) (by show sc + 207 + 0 ≤ sc + 207; omega) (by show ss + 6418 + 0 ≤ ss + 6418; omega) ?_
          obtain ⟨k43, e42, fz45, iz46, tz47, mo44, hZ48⟩ := hp41
          have k43x : pd_kx [20, 30, 31, 32, 36, 37, 38, 39, 40, 41, 43, 44, 45, 46, 47, 48, 49, 51, 52, 53, 54, 55, 56, 57, 58, 60, 61, 71, 72] h28 h40 := k43
          have f49 := k43x _ _ f37 (show (0 : Nat) ∉ [20, 30, 31, 32, 36, 37, 38, 39, 40, 41, 43, 44, 45, 46, 47, 48, 49, 51, 52, 53, 54, 55, 56, 57, 58, 60, 61, 71, 72] by decide)
          refine lv_icmp_eq (tgt := 332) hx hb d_law_145 (by decide) (fun q50 => ?_) (fun q50 => ?_)
          · -- taken: 332
            refine pd_iinc (k := 0) (d := 3) (lv' := [(3, .int (nI (ii + 3))), (2, .ref y), (1, .ref x), (0, .ref b)]) hx hb d_law_332 (by decide) hl rfl (by decide) rfl (fun ls hl => ?_)
            refine lv_goto (tgt := 18) hx hb d_law_335 (by decide) ?_
            exact ih (ii + 3) (sc + 207) (ss + 6418) h40 ((gr_line t0 n R k M u U T kp nx sp an gn sn dn).2) ⟨A33, B34, C35, _, _, _, _, pd_DX.kx hD32 (k43x) (by decide), mo44, hZ48, gm_IT_line h2n hI⟩ (by have z := gr_line_an (cs := t0) (n := n) (R := R) (k := k) (M := M) (u := u) (U := U) (T := T) (kp := kp) (nx := nx) (sp := sp) (an := an) (gn := gn) (sn := sn) (dn := dn); omega) (by omega) (by omega) (by omega) (by omega) _ _ w ls (lv_sub hl [0, 1, 2, 3] rfl)
          · -- not taken: 148
            exact absurd (e30.trans e42.symm) q50
        by_cases z51 : ((f ii) &&& (nI 15)) = nI 2
        · -- case 2: 150
          refine lv_tableIn (tgt := 150) hx hb d_law_32 (by rw [z51]; decide) (by rw [z51]; decide) (by rw [z51]; rfl) (by decide) ?_
          refine lv_aload_n hx hb d_law_150 rfl (lv_at hl 2 rfl) ?_
          refine pd_cV (a := x) (As := []) (rest := []) X w hx5 rfl (c_PolicyDesk_drop l G hh (A := A) (B := B) (C := C) (t0 := t0) (n := n) (R := R) (k := k) (M := M) (u := u) (U := U) (T := T) (kp := kp) (nx := nx) (sp := sp) (an := an) (gn := gn) (sn := sn) (dn := dn) hD) ok_PolicyDesk_drop ⟨mT_1075, mT_1076⟩ mT_1074 ⟨by decide, by decide⟩ rfl hl.1 rfl (Nat.le_of_ble_eq_true rfl) d_law_151 ⟨Nat.le_trans (m := 600000) (by show sc + 1 ≤ 600000; omega) (by decide), Nat.le_trans (m := 7302250) (by show ss + 200 ≤ 7302250; omega) (by decide)⟩ (fun r52 h53 H locs hp54 w => ?_)
          refine W.widen (k := sc + 1) (n := ss + 200) (by show sc + 1 ≤ sc + 1; omega) (by show ss + 200 ≤ ss + 200; omega) ?_
          obtain ⟨e55, k56, hD57⟩ := hp54
          have f58 := k56 _ _ hx5 (show (5 : Nat) ∉ [1, 2] by decide)
          have f59 := k56 _ _ hy5 (show (20 : Nat) ∉ [1, 2] by decide)
          have f60 := k56 _ _ hb5 (show (0 : Nat) ∉ [1, 2] by decide)
          have mo61 : pd_MO G h53 y ad fv iv tl := hMO.kx k56 (by decide)
          refine lv_aload_n hx hb d_law_154 rfl (lv_at hl 1 rfl) ?_
          refine pd_cV (a := y) (As := []) (rest := [.int r52]) X w f59 rfl (c_Mod_drop l G h53 (ad := ad) (fv := fv) (iv := iv) (tl := tl) (cs := t0) mo61 hZL) ok_Mod_drop ⟨mT_1281, mT_1282⟩ mT_1280 ⟨by decide, by decide⟩ rfl hl.1 rfl (Nat.le_of_ble_eq_true rfl) d_law_155 ⟨Nat.le_trans (m := 600000) (by show sc + 1 + 0 ≤ 600000; omega) (by decide), Nat.le_trans (m := 7302250) (by show ss + 200 + 0 ≤ 7302250; omega) (by decide)⟩ (fun r62 h63 H locs hp64 w => ?_)
          refine W.widen (k := sc + 1) (n := ss + 200) (by show sc + 1 + 0 ≤ sc + 1; omega) (by show ss + 200 + 0 ≤ ss + 200; omega) ?_
          obtain ⟨e65, k66, mo67⟩ := hp64
          have f68 := k66 _ _ f58 (show (5 : Nat) ∉ [20] by decide)
          have f69 := k66 _ _ f60 (show (0 : Nat) ∉ [20] by decide)
          refine lv_icmp_eq (tgt := 332) hx hb d_law_158 (by decide) (fun q70 => ?_) (fun q70 => ?_)
          · -- taken: 332
            refine pd_iinc (k := 0) (d := 3) (lv' := [(3, .int (nI (ii + 3))), (2, .ref y), (1, .ref x), (0, .ref b)]) hx hb d_law_332 (by decide) hl rfl (by decide) rfl (fun ls hl => ?_)
            refine lv_goto (tgt := 18) hx hb d_law_335 (by decide) ?_
            exact ih (ii + 3) (sc + 1) (ss + 200) h63 ([], (n, R), (k, M), (u, U), (T, kp, nx), sp, an, gn, sn, dn) ⟨A, B, C, _, _, _, _, pd_DX.kx hD57 (k66) (by decide), mo67, ⟨gm_L_nil rfl, hZ5, gm_R_0 hZR ⟨fun _ _ => rfl, fun j hj => by simp at hj; simp [pd_fu, hj]⟩⟩, ⟨h2n, hI⟩⟩ ⟨by show 3 * an ≤ ii + 3; omega, by show 3 * sn ≤ ii + 3; omega⟩ (by omega) (by omega) (by omega) (by omega) _ _ w ls (lv_sub hl [0, 1, 2, 3] rfl)
          · -- not taken: 161
            exact absurd (e55.trans e65.symm) q70
        by_cases z71 : ((f ii) &&& (nI 15)) = nI 3
        · -- case 3: 163
          refine lv_tableIn (tgt := 163) hx hb d_law_32 (by rw [z71]; decide) (by rw [z71]; decide) (by rw [z71]; rfl) (by decide) ?_
          refine lv_aload_n hx hb d_law_163 rfl (lv_at hl 2 rfl) ?_
          refine lv_aload_n hx hb d_law_164 rfl (lv_at hl 3 rfl) ?_
          refine lv_iload_n hx hb d_law_165 rfl (lv_at hl 0 rfl) ?_
          refine lv_iconst (v := nI 1) hx hb d_law_166 (by decide) ?_
          refine pd_iadd hx hb d_law_167 ?_
          refine pd_iald X w hb5 (by omega) (by omega) d_law_168 ?_
          refine lv_aload_n hx hb d_law_169 rfl (lv_at hl 3 rfl) ?_
          refine lv_iload_n hx hb d_law_170 rfl (lv_at hl 0 rfl) ?_
          refine lv_iconst (v := nI 2) hx hb d_law_171 (by decide) ?_
          refine pd_iadd hx hb d_law_172 ?_
          refine pd_iald X w hb5 (by omega) (by omega) d_law_173 ?_
          refine pd_cV (a := x) (As := [.int (f (ii + 1)), .int (f (ii + 2))]) (rest := []) X w hx5 rfl (c_PolicyDesk_cls l G hh (A := A) (B := B) (C := C) (t0 := t0) (n := n) (R := R) (k := k) (M := M) (u := u) (U := U) (T := T) (kp := kp) (nx := nx) (sp := sp) (an := an) (gn := gn) (sn := sn) (dn := dn) hD) ok_PolicyDesk_cls ⟨mT_1079, mT_1080⟩ mT_1078 ⟨by decide, by decide⟩ rfl hl.1 rfl (Nat.le_of_ble_eq_true rfl) d_law_174 ⟨Nat.le_trans (m := 600000) (by show sc + 0 ≤ 600000; omega) (by decide), Nat.le_trans (m := 7302250) (by show ss + 0 ≤ 7302250; omega) (by decide)⟩ (fun r72 h73 H locs hp74 w => ?_)
          refine W.widen (k := sc) (n := ss) (by show sc + 0 ≤ sc; omega) (by show ss + 0 ≤ ss; omega) ?_
          obtain ⟨e75, rfl⟩ := hp74
          refine lv_aload_n hx hb d_law_177 rfl (lv_at hl 1 rfl) ?_
          refine lv_aload_n hx hb d_law_178 rfl (lv_at hl 3 rfl) ?_
          refine lv_iload_n hx hb d_law_179 rfl (lv_at hl 0 rfl) ?_
          refine lv_iconst (v := nI 1) hx hb d_law_180 (by decide) ?_
          refine pd_iadd hx hb d_law_181 ?_
          refine pd_iald X w hb5 (by omega) (by omega) d_law_182 ?_
          refine lv_aload_n hx hb d_law_183 rfl (lv_at hl 3 rfl) ?_
          refine lv_iload_n hx hb d_law_184 rfl (lv_at hl 0 rfl) ?_
          refine lv_iconst (v := nI 2) hx hb d_law_185 (by decide) ?_
          refine pd_iadd hx hb d_law_186 ?_
          refine pd_iald X w hb5 (by omega) (by omega) d_law_187 ?_
          refine pd_cV (a := y) (As := [.int (f (ii + 1)), .int (f (ii + 2))]) (rest := [.int r72]) X w hy5 rfl (c_Mod_cls l G hh (ad := ad) (fv := fv) (iv := iv) (tl := tl) (n := n) (R := R) (k := k) (M := M) hMO hZR.1 hZR.2.1) ok_Mod_cls ⟨mT_1456, mT_1457⟩ mT_1455 ⟨by decide, by decide⟩ rfl hl.1 rfl (Nat.le_of_ble_eq_true rfl) d_law_188 ⟨Nat.le_trans (m := 600000) (by show sc + 0 ≤ 600000; omega) (by decide), Nat.le_trans (m := 7302250) (by show ss + 0 ≤ 7302250; omega) (by decide)⟩ (fun r76 h77 H locs hp78 w => ?_)
          refine W.widen (k := sc) (n := ss) (by show sc + 0 ≤ sc; omega) (by show ss + 0 ≤ ss; omega) ?_
          obtain ⟨e79, rfl⟩ := hp78
          refine lv_icmp_eq (tgt := 332) hx hb d_law_191 (by decide) (fun q82 => ?_) (fun q82 => ?_)
          · -- taken: 332
            refine pd_iinc (k := 0) (d := 3) (lv' := [(3, .int (nI (ii + 3))), (2, .ref y), (1, .ref x), (0, .ref b)]) hx hb d_law_332 (by decide) hl rfl (by decide) rfl (fun ls hl => ?_)
            refine lv_goto (tgt := 18) hx hb d_law_335 (by decide) ?_
            exact ih (ii + 3) sc ss hh (t0, (n, R), (k, M), (u, U), (T, kp, nx), sp, an, gn, sn, dn) ⟨A, B, C, _, _, _, _, hD, hMO, ⟨hZL, hZ5, hZR⟩, ⟨h2n, hI⟩⟩ ⟨by show 3 * an ≤ ii + 3; omega, by show 3 * sn ≤ ii + 3; omega⟩ (by omega) (by omega) (by omega) (by omega) _ _ w ls (lv_sub hl [0, 1, 2, 3] rfl)
          · -- not taken: 194
            exact absurd (e75.trans e79.symm) q82
        by_cases z83 : ((f ii) &&& (nI 15)) = nI 4
        · -- case 4: 196
          refine lv_tableIn (tgt := 196) hx hb d_law_32 (by rw [z83]; decide) (by rw [z83]; decide) (by rw [z83]; rfl) (by decide) ?_
          refine lv_aload_n hx hb d_law_196 rfl (lv_at hl 2 rfl) ?_
          refine lv_aload_n hx hb d_law_197 rfl (lv_at hl 3 rfl) ?_
          refine lv_iload_n hx hb d_law_198 rfl (lv_at hl 0 rfl) ?_
          refine lv_iconst (v := nI 1) hx hb d_law_199 (by decide) ?_
          refine pd_iadd hx hb d_law_200 ?_
          refine pd_iald X w hb5 (by omega) (by omega) d_law_201 ?_
          refine lv_aload_n hx hb d_law_202 rfl (lv_at hl 3 rfl) ?_
          refine lv_iload_n hx hb d_law_203 rfl (lv_at hl 0 rfl) ?_
          refine lv_iconst (v := nI 2) hx hb d_law_204 (by decide) ?_
          refine pd_iadd hx hb d_law_205 ?_
          refine pd_iald X w hb5 (by omega) (by omega) d_law_206 ?_
          refine pd_cV (a := x) (As := [.int (f (ii + 1)), .int (f (ii + 2))]) (rest := []) X w hx5 rfl (c_PolicyDesk_member l G hh (A := A) (B := B) (C := C) (t0 := t0) (n := n) (R := R) (k := k) (M := M) (u := u) (U := U) (T := T) (kp := kp) (nx := nx) (sp := sp) (an := an) (gn := gn) (sn := sn) (dn := dn) hD) ok_PolicyDesk_member ⟨mT_1095, mT_1096⟩ mT_1094 ⟨by decide, by decide⟩ rfl hl.1 rfl (Nat.le_of_ble_eq_true rfl) d_law_207 ⟨Nat.le_trans (m := 600000) (by show sc + 0 ≤ 600000; omega) (by decide), Nat.le_trans (m := 7302250) (by show ss + 0 ≤ 7302250; omega) (by decide)⟩ (fun r84 h85 H locs hp86 w => ?_)
          refine W.widen (k := sc) (n := ss) (by show sc + 0 ≤ sc; omega) (by show ss + 0 ≤ ss; omega) ?_
          obtain ⟨e87, rfl⟩ := hp86
          refine lv_aload_n hx hb d_law_210 rfl (lv_at hl 1 rfl) ?_
          refine lv_aload_n hx hb d_law_211 rfl (lv_at hl 3 rfl) ?_
          refine lv_iload_n hx hb d_law_212 rfl (lv_at hl 0 rfl) ?_
          refine lv_iconst (v := nI 1) hx hb d_law_213 (by decide) ?_
          refine pd_iadd hx hb d_law_214 ?_
          refine pd_iald X w hb5 (by omega) (by omega) d_law_215 ?_
          refine lv_aload_n hx hb d_law_216 rfl (lv_at hl 3 rfl) ?_
          refine lv_iload_n hx hb d_law_217 rfl (lv_at hl 0 rfl) ?_
          refine lv_iconst (v := nI 2) hx hb d_law_218 (by decide) ?_
          refine pd_iadd hx hb d_law_219 ?_
          refine pd_iald X w hb5 (by omega) (by omega) d_law_220 ?_
          refine pd_cV (a := y) (As := [.int (f (ii + 1)), .int (f (ii + 2))]) (rest := [.int r84]) X w hy5 rfl (c_Mod_member l G hh (ad := ad) (fv := fv) (iv := iv) (tl := tl) (n := n) (k := k) (M := M) hMO hZR.2.1) ok_Mod_member ⟨mT_1460, mT_1461⟩ mT_1459 ⟨by decide, by decide⟩ rfl hl.1 rfl (Nat.le_of_ble_eq_true rfl) d_law_221 ⟨Nat.le_trans (m := 600000) (by show sc + 0 ≤ 600000; omega) (by decide), Nat.le_trans (m := 7302250) (by show ss + 0 ≤ 7302250; omega) (by decide)⟩ (fun r88 h89 H locs hp90 w => ?_)
          refine W.widen (k := sc) (n := ss) (by show sc + 0 ≤ sc; omega) (by show ss + 0 ≤ ss; omega) ?_
          obtain ⟨e91, rfl⟩ := hp90
          refine lv_icmp_eq (tgt := 332) hx hb d_law_224 (by decide) (fun q94 => ?_) (fun q94 => ?_)
          · -- taken: 332
            refine pd_iinc (k := 0) (d := 3) (lv' := [(3, .int (nI (ii + 3))), (2, .ref y), (1, .ref x), (0, .ref b)]) hx hb d_law_332 (by decide) hl rfl (by decide) rfl (fun ls hl => ?_)
            refine lv_goto (tgt := 18) hx hb d_law_335 (by decide) ?_
            exact ih (ii + 3) sc ss hh (t0, (n, R), (k, M), (u, U), (T, kp, nx), sp, an, gn, sn, dn) ⟨A, B, C, _, _, _, _, hD, hMO, ⟨hZL, hZ5, hZR⟩, ⟨h2n, hI⟩⟩ ⟨by show 3 * an ≤ ii + 3; omega, by show 3 * sn ≤ ii + 3; omega⟩ (by omega) (by omega) (by omega) (by omega) _ _ w ls (lv_sub hl [0, 1, 2, 3] rfl)
          · -- not taken: 227
            exact absurd (e87.trans e91.symm) q94
        by_cases z95 : ((f ii) &&& (nI 15)) = nI 5
        · -- case 5: 229
          refine lv_tableIn (tgt := 229) hx hb d_law_32 (by rw [z95]; decide) (by rw [z95]; decide) (by rw [z95]; rfl) (by decide) ?_
          refine lv_aload_n hx hb d_law_229 rfl (lv_at hl 2 rfl) ?_
          refine lv_aload_n hx hb d_law_230 rfl (lv_at hl 3 rfl) ?_
          refine lv_iload_n hx hb d_law_231 rfl (lv_at hl 0 rfl) ?_
          refine lv_iconst (v := nI 1) hx hb d_law_232 (by decide) ?_
          refine pd_iadd hx hb d_law_233 ?_
          refine pd_iald X w hb5 (by omega) (by omega) d_law_234 ?_
          refine lv_aload_n hx hb d_law_235 rfl (lv_at hl 3 rfl) ?_
          refine lv_iload_n hx hb d_law_236 rfl (lv_at hl 0 rfl) ?_
          refine lv_iconst (v := nI 2) hx hb d_law_237 (by decide) ?_
          refine pd_iadd hx hb d_law_238 ?_
          refine pd_iald X w hb5 (by omega) (by omega) d_law_239 ?_
          refine pd_cV (a := x) (As := [.int (f (ii + 1)), .int (f (ii + 2))]) (rest := []) X w hx5 rfl (c_PolicyDesk_audit l G hh (A := A) (B := B) (C := C) (t0 := t0) (n := n) (R := R) (k := k) (M := M) (u := u) (U := U) (T := T) (kp := kp) (nx := nx) (sp := sp) (an := an) (gn := gn) (sn := sn) (dn := dn) hD) ok_PolicyDesk_audit ⟨mT_1103, mT_1104⟩ mT_1102 ⟨by decide, by decide⟩ rfl hl.1 rfl (Nat.le_of_ble_eq_true rfl) d_law_240 ⟨Nat.le_trans (m := 600000) (by show sc + 0 ≤ 600000; omega) (by decide), Nat.le_trans (m := 7302250) (by show ss + 0 ≤ 7302250; omega) (by decide)⟩ (fun r96 h97 H locs hp98 w => ?_)
          refine W.widen (k := sc) (n := ss) (by show sc + 0 ≤ sc; omega) (by show ss + 0 ≤ ss; omega) ?_
          obtain ⟨e99, rfl⟩ := hp98
          refine lv_aload_n hx hb d_law_243 rfl (lv_at hl 1 rfl) ?_
          refine lv_aload_n hx hb d_law_244 rfl (lv_at hl 3 rfl) ?_
          refine lv_iload_n hx hb d_law_245 rfl (lv_at hl 0 rfl) ?_
          refine lv_iconst (v := nI 1) hx hb d_law_246 (by decide) ?_
          refine pd_iadd hx hb d_law_247 ?_
          refine pd_iald X w hb5 (by omega) (by omega) d_law_248 ?_
          refine lv_aload_n hx hb d_law_249 rfl (lv_at hl 3 rfl) ?_
          refine lv_iload_n hx hb d_law_250 rfl (lv_at hl 0 rfl) ?_
          refine lv_iconst (v := nI 2) hx hb d_law_251 (by decide) ?_
          refine pd_iadd hx hb d_law_252 ?_
          refine pd_iald X w hb5 (by omega) (by omega) d_law_253 ?_
          refine pd_cV (a := y) (As := [.int (f (ii + 1)), .int (f (ii + 2))]) (rest := [.int r96]) X w hy5 rfl (c_Mod_audit l G hh (ad := ad) (fv := fv) (iv := iv) (tl := tl) (T := T) (an := an) hMO hZR.2.2.2.1 hZR.2.2.2.2.1 (by omega)) ok_Mod_audit ⟨mT_1464, mT_1465⟩ mT_1463 ⟨by decide, by decide⟩ rfl hl.1 rfl (Nat.le_of_ble_eq_true rfl) d_law_254 ⟨Nat.le_trans (m := 600000) (by show sc + 0 ≤ 600000; omega) (by decide), Nat.le_trans (m := 7302250) (by show ss + 0 ≤ 7302250; omega) (by decide)⟩ (fun r100 h101 H locs hp102 w => ?_)
          refine W.widen (k := sc) (n := ss) (by show sc + 0 ≤ sc; omega) (by show ss + 0 ≤ ss; omega) ?_
          obtain ⟨e103, rfl⟩ := hp102
          rw [← hkp, ← hnx] at e103
          refine lv_icmp_eq (tgt := 332) hx hb d_law_257 (by decide) (fun q106 => ?_) (fun q106 => ?_)
          · -- taken: 332
            refine pd_iinc (k := 0) (d := 3) (lv' := [(3, .int (nI (ii + 3))), (2, .ref y), (1, .ref x), (0, .ref b)]) hx hb d_law_332 (by decide) hl rfl (by decide) rfl (fun ls hl => ?_)
            refine lv_goto (tgt := 18) hx hb d_law_335 (by decide) ?_
            exact ih (ii + 3) sc ss hh (t0, (n, R), (k, M), (u, U), (T, kp, nx), sp, an, gn, sn, dn) ⟨A, B, C, _, _, _, _, hD, hMO, ⟨hZL, hZ5, hZR⟩, ⟨h2n, hI⟩⟩ ⟨by show 3 * an ≤ ii + 3; omega, by show 3 * sn ≤ ii + 3; omega⟩ (by omega) (by omega) (by omega) (by omega) _ _ w ls (lv_sub hl [0, 1, 2, 3] rfl)
          · -- not taken: 260
            exact absurd (e99.trans e103.symm) q106
        by_cases z107 : ((f ii) &&& (nI 15)) = nI 6
        · -- case 6: 262
          refine lv_tableIn (tgt := 262) hx hb d_law_32 (by rw [z107]; decide) (by rw [z107]; decide) (by rw [z107]; rfl) (by decide) ?_
          refine lv_aload_n hx hb d_law_262 rfl (lv_at hl 2 rfl) ?_
          refine lv_aload_n hx hb d_law_263 rfl (lv_at hl 3 rfl) ?_
          refine lv_iload_n hx hb d_law_264 rfl (lv_at hl 0 rfl) ?_
          refine lv_iconst (v := nI 1) hx hb d_law_265 (by decide) ?_
          refine pd_iadd hx hb d_law_266 ?_
          refine pd_iald X w hb5 (by omega) (by omega) d_law_267 ?_
          refine lv_aload_n hx hb d_law_268 rfl (lv_at hl 3 rfl) ?_
          refine lv_iload_n hx hb d_law_269 rfl (lv_at hl 0 rfl) ?_
          refine lv_iconst (v := nI 2) hx hb d_law_270 (by decide) ?_
          refine pd_iadd hx hb d_law_271 ?_
          refine pd_iald X w hb5 (by omega) (by omega) d_law_272 ?_
          refine pd_cV (a := x) (As := [.int (f (ii + 1)), .int (f (ii + 2))]) (rest := []) X w hx5 rfl (c_PolicyDesk_below l G hh (A := A) (B := B) (C := C) (t0 := t0) (n := n) (R := R) (k := k) (M := M) (u := u) (U := U) (T := T) (kp := kp) (nx := nx) (sp := sp) (an := an) (gn := gn) (sn := sn) (dn := dn) hD) ok_PolicyDesk_below ⟨mT_1114, mT_1115⟩ mT_1113 ⟨by decide, by decide⟩ rfl hl.1 rfl (Nat.le_of_ble_eq_true rfl) d_law_273 ⟨Nat.le_trans (m := 600000) (by show sc + 0 ≤ 600000; omega) (by decide), Nat.le_trans (m := 7302250) (by show ss + 0 ≤ 7302250; omega) (by decide)⟩ (fun r108 h109 H locs hp110 w => ?_)
          refine W.widen (k := sc) (n := ss) (by show sc + 0 ≤ sc; omega) (by show ss + 0 ≤ ss; omega) ?_
          obtain ⟨e111, rfl⟩ := hp110
          refine lv_aload_n hx hb d_law_276 rfl (lv_at hl 1 rfl) ?_
          refine lv_aload_n hx hb d_law_277 rfl (lv_at hl 3 rfl) ?_
          refine lv_iload_n hx hb d_law_278 rfl (lv_at hl 0 rfl) ?_
          refine lv_iconst (v := nI 1) hx hb d_law_279 (by decide) ?_
          refine pd_iadd hx hb d_law_280 ?_
          refine pd_iald X w hb5 (by omega) (by omega) d_law_281 ?_
          refine lv_aload_n hx hb d_law_282 rfl (lv_at hl 3 rfl) ?_
          refine lv_iload_n hx hb d_law_283 rfl (lv_at hl 0 rfl) ?_
          refine lv_iconst (v := nI 2) hx hb d_law_284 (by decide) ?_
          refine pd_iadd hx hb d_law_285 ?_
          refine pd_iald X w hb5 (by omega) (by omega) d_law_286 ?_
          refine pd_cV (a := y) (As := [.int (f (ii + 1)), .int (f (ii + 2))]) (rest := [.int r108]) X w hy5 rfl (c_Mod_below l G hh (ad := ad) (fv := fv) (iv := iv) (tl := tl) (n := n) (R := R) hMO hZR.1 hI.1 hI.2.1) ok_Mod_below ⟨mT_1468, mT_1469⟩ mT_1467 ⟨by decide, by decide⟩ rfl hl.1 rfl (Nat.le_of_ble_eq_true rfl) d_law_287 ⟨Nat.le_trans (m := 600000) (by show sc + 0 ≤ 600000; omega) (by decide), Nat.le_trans (m := 7302250) (by show ss + 0 ≤ 7302250; omega) (by decide)⟩ (fun r112 h113 H locs hp114 w => ?_)
          refine W.widen (k := sc) (n := ss) (by show sc + 0 ≤ sc; omega) (by show ss + 0 ≤ ss; omega) ?_
          obtain ⟨e115, k116, fz118, fz119, vz120, mo117⟩ := hp114
          have f121 := k116 _ _ hx5 (show (5 : Nat) ∉ [20, 71, 72] by decide)
          have f122 := k116 _ _ hb5 (show (0 : Nat) ∉ [20, 71, 72] by decide)
          refine lv_icmp_eq (tgt := 332) hx hb d_law_290 (by decide) (fun q123 => ?_) (fun q123 => ?_)
          · -- taken: 332
            refine pd_iinc (k := 0) (d := 3) (lv' := [(3, .int (nI (ii + 3))), (2, .ref y), (1, .ref x), (0, .ref b)]) hx hb d_law_332 (by decide) hl rfl (by decide) rfl (fun ls hl => ?_)
            refine lv_goto (tgt := 18) hx hb d_law_335 (by decide) ?_
            exact ih (ii + 3) sc ss h113 (t0, (n, R), (k, M), (u, U), (T, kp, nx), sp, an, gn, sn, dn) ⟨A, B, C, _, _, _, _, pd_DX.kx hD (k116) (by decide), mo117, ⟨hZL, hZ5, gm_R_0 hZR ⟨fun j hj => by simp at hj; simp [pd_fu, hj], fun j hj => by simp at hj; simp [pd_fu, hj]⟩⟩, ⟨h2n, hI⟩⟩ ⟨by show 3 * an ≤ ii + 3; omega, by show 3 * sn ≤ ii + 3; omega⟩ (by omega) (by omega) (by omega) (by omega) _ _ w ls (lv_sub hl [0, 1, 2, 3] rfl)
          · -- not taken: 293
            exact absurd (e111.trans e115.symm) q123
        by_cases z124 : ((f ii) &&& (nI 15)) = nI 7
        · -- case 7: 295
          refine lv_tableIn (tgt := 295) hx hb d_law_32 (by rw [z124]; decide) (by rw [z124]; decide) (by rw [z124]; rfl) (by decide) ?_
          refine lv_aload_n hx hb d_law_295 rfl (lv_at hl 2 rfl) ?_
          refine pd_cV (a := x) (As := []) (rest := []) X w hx5 rfl (c_PolicyDesk_total l G hh (A := A) (B := B) (C := C) (t0 := t0) (n := n) (R := R) (k := k) (M := M) (u := u) (U := U) (T := T) (kp := kp) (nx := nx) (sp := sp) (an := an) (gn := gn) (sn := sn) (dn := dn) hD) ok_PolicyDesk_total ⟨mT_1119, mT_1120⟩ mT_1118 ⟨by decide, by decide⟩ rfl hl.1 rfl (Nat.le_of_ble_eq_true rfl) d_law_296 ⟨Nat.le_trans (m := 600000) (by show sc + 0 ≤ 600000; omega) (by decide), Nat.le_trans (m := 7302250) (by show ss + 0 ≤ 7302250; omega) (by decide)⟩ (fun r125 h126 H locs hp127 w => ?_)
          refine W.widen (k := sc) (n := ss) (by show sc + 0 ≤ sc; omega) (by show ss + 0 ≤ ss; omega) ?_
          obtain ⟨e128, rfl⟩ := hp127
          refine lv_aload_n hx hb d_law_299 rfl (lv_at hl 1 rfl) ?_
          refine pd_cV (a := y) (As := []) (rest := [.long r125]) X w hy5 rfl (c_Mod_total l G hh (ad := ad) (fv := fv) (iv := iv) (tl := tl)  hMO) ok_Mod_total ⟨mT_1472, mT_1473⟩ mT_1471 ⟨by decide, by decide⟩ rfl hl.1 rfl (Nat.le_of_ble_eq_true rfl) d_law_300 ⟨Nat.le_trans (m := 600000) (by show sc + 0 ≤ 600000; omega) (by decide), Nat.le_trans (m := 7302250) (by show ss + 0 ≤ 7302250; omega) (by decide)⟩ (fun r129 h130 H locs hp131 w => ?_)
          refine W.widen (k := sc) (n := ss) (by show sc + 0 ≤ sc; omega) (by show ss + 0 ≤ ss; omega) ?_
          obtain ⟨e132, rfl⟩ := hp131
          refine pd_lcmp hx hb d_law_303 ?_
          refine lv_if_eq (tgt := 332) hx hb d_law_304 (by decide) (fun q135 => ?_) (fun q135 => ?_)
          · -- taken: 332
            refine pd_iinc (k := 0) (d := 3) (lv' := [(3, .int (nI (ii + 3))), (2, .ref y), (1, .ref x), (0, .ref b)]) hx hb d_law_332 (by decide) hl rfl (by decide) rfl (fun ls hl => ?_)
            refine lv_goto (tgt := 18) hx hb d_law_335 (by decide) ?_
            exact ih (ii + 3) sc ss hh (t0, (n, R), (k, M), (u, U), (T, kp, nx), sp, an, gn, sn, dn) ⟨A, B, C, _, _, _, _, hD, hMO, ⟨hZL, hZ5, hZR⟩, ⟨h2n, hI⟩⟩ ⟨by show 3 * an ≤ ii + 3; omega, by show 3 * sn ≤ ii + 3; omega⟩ (by omega) (by omega) (by omega) (by omega) _ _ w ls (lv_sub hl [0, 1, 2, 3] rfl)
          · -- not taken: 307
            exact absurd (pd_cmp_eq (e128.trans (hZR.2.2.2.2.2.2.2.1.symm.trans e132.symm))) q135
        by_cases z136 : ((f ii) &&& (nI 15)) = nI 8
        · -- case 8: 309
          refine lv_tableIn (tgt := 309) hx hb d_law_32 (by rw [z136]; decide) (by rw [z136]; decide) (by rw [z136]; rfl) (by decide) ?_
          refine lv_aload_n hx hb d_law_309 rfl (lv_at hl 2 rfl) ?_
          refine lv_aload_n hx hb d_law_310 rfl (lv_at hl 3 rfl) ?_
          refine lv_iload_n hx hb d_law_311 rfl (lv_at hl 0 rfl) ?_
          refine lv_iconst (v := nI 1) hx hb d_law_312 (by decide) ?_
          refine pd_iadd hx hb d_law_313 ?_
          refine pd_iald X w hb5 (by omega) (by omega) d_law_314 ?_
          refine pd_cV (a := x) (As := [.int (f (ii + 1))]) (rest := []) X w hx5 rfl (c_PolicyDesk_count l G hh (A := A) (B := B) (C := C) (t0 := t0) (n := n) (R := R) (k := k) (M := M) (u := u) (U := U) (T := T) (kp := kp) (nx := nx) (sp := sp) (an := an) (gn := gn) (sn := sn) (dn := dn) hD) ok_PolicyDesk_count ⟨mT_1123, mT_1124⟩ mT_1122 ⟨by decide, by decide⟩ rfl hl.1 rfl (Nat.le_of_ble_eq_true rfl) d_law_315 ⟨Nat.le_trans (m := 600000) (by show sc + 0 ≤ 600000; omega) (by decide), Nat.le_trans (m := 7302250) (by show ss + 0 ≤ 7302250; omega) (by decide)⟩ (fun r137 h138 H locs hp139 w => ?_)
          refine W.widen (k := sc) (n := ss) (by show sc + 0 ≤ sc; omega) (by show ss + 0 ≤ ss; omega) ?_
          obtain ⟨e140, rfl⟩ := hp139
          refine lv_aload_n hx hb d_law_318 rfl (lv_at hl 1 rfl) ?_
          refine lv_aload_n hx hb d_law_319 rfl (lv_at hl 3 rfl) ?_
          refine lv_iload_n hx hb d_law_320 rfl (lv_at hl 0 rfl) ?_
          refine lv_iconst (v := nI 1) hx hb d_law_321 (by decide) ?_
          refine pd_iadd hx hb d_law_322 ?_
          refine pd_iald X w hb5 (by omega) (by omega) d_law_323 ?_
          refine pd_cV (a := y) (As := [.int (f (ii + 1))]) (rest := [.int r137]) X w hy5 rfl (c_Mod_count l G hh (ad := ad) (fv := fv) (iv := iv) (tl := tl) (n := n) (k := k) (u := u) (an := an) (gn := gn) (sn := sn) (tn := t0.length) (dn := dn) hMO ⟨hZR.1.1, hZR.2.1.1, hZR.2.2.1.1, hZR.2.2.2.2.1, hZR.2.2.2.2.2.1, hZ5, hZL.1, hZR.2.2.2.2.2.2.1⟩) ok_Mod_count ⟨mT_1476, mT_1477⟩ mT_1475 ⟨by decide, by decide⟩ rfl hl.1 rfl (Nat.le_of_ble_eq_true rfl) d_law_324 ⟨Nat.le_trans (m := 600000) (by show sc + 0 ≤ 600000; omega) (by decide), Nat.le_trans (m := 7302250) (by show ss + 0 ≤ 7302250; omega) (by decide)⟩ (fun r141 h142 H locs hp143 w => ?_)
          refine W.widen (k := sc) (n := ss) (by show sc + 0 ≤ sc; omega) (by show ss + 0 ≤ ss; omega) ?_
          obtain ⟨e144, rfl⟩ := hp143
          refine lv_icmp_eq (tgt := 332) hx hb d_law_327 (by decide) (fun q147 => ?_) (fun q147 => ?_)
          · -- taken: 332
            refine pd_iinc (k := 0) (d := 3) (lv' := [(3, .int (nI (ii + 3))), (2, .ref y), (1, .ref x), (0, .ref b)]) hx hb d_law_332 (by decide) hl rfl (by decide) rfl (fun ls hl => ?_)
            refine lv_goto (tgt := 18) hx hb d_law_335 (by decide) ?_
            exact ih (ii + 3) sc ss hh (t0, (n, R), (k, M), (u, U), (T, kp, nx), sp, an, gn, sn, dn) ⟨A, B, C, _, _, _, _, hD, hMO, ⟨hZL, hZ5, hZR⟩, ⟨h2n, hI⟩⟩ ⟨by show 3 * an ≤ ii + 3; omega, by show 3 * sn ≤ ii + 3; omega⟩ (by omega) (by omega) (by omega) (by omega) _ _ w ls (lv_sub hl [0, 1, 2, 3] rfl)
          · -- not taken: 330
            exact absurd (e140.trans e144.symm) q147
        refine lv_tableOut (tgt := 332) hx hb d_law_32 (pd_tout (lo := 0) (hi := 8) (by decide) (by intro j h1 h2; rcases (show j = 0 ∨ j = 1 ∨ j = 2 ∨ j = 3 ∨ j = 4 ∨ j = 5 ∨ j = 6 ∨ j = 7 ∨ j = 8 by omega) with q | q | q | q | q | q | q | q | q <;> subst q; exact fun e9 => z3 (e9.trans (by decide)); exact fun e9 => z26 (e9.trans (by decide)); exact fun e9 => z51 (e9.trans (by decide)); exact fun e9 => z71 (e9.trans (by decide)); exact fun e9 => z83 (e9.trans (by decide)); exact fun e9 => z95 (e9.trans (by decide)); exact fun e9 => z107 (e9.trans (by decide)); exact fun e9 => z124 (e9.trans (by decide)); exact fun e9 => z136 (e9.trans (by decide)))) (by decide) ?_
        refine pd_iinc (k := 0) (d := 3) (lv' := [(3, .int (nI (ii + 3))), (2, .ref y), (1, .ref x), (0, .ref b)]) hx hb d_law_332 (by decide) hl rfl (by decide) rfl (fun ls hl => ?_)
        refine lv_goto (tgt := 18) hx hb d_law_335 (by decide) ?_
        exact ih (ii + 3) sc ss hh (t0, (n, R), (k, M), (u, U), (T, kp, nx), sp, an, gn, sn, dn) ⟨A, B, C, _, _, _, _, hD, hMO, ⟨hZL, hZ5, hZR⟩, ⟨h2n, hI⟩⟩ ⟨by show 3 * an ≤ ii + 3; omega, by show 3 * sn ≤ ii + 3; omega⟩ (by omega) (by omega) (by omega) (by omega) _ _ w ls (lv_sub hl [0, 1, 2, 3] rfl)
    · -- fewer
      refine lv_isub hx hb d_law_22 ?_
      refine lv_icmp_gt (tgt := 338) hx hb d_law_23 (by decide) (fun q => ?_) (fun q => absurd (pd_l3 h3 (by omega)) q)
      refine lv_iconst (v := 1) hx hb d_law_338 (by decide) ?_
      refine va_forget (fun q hq => by have z := w.2.2.2.2 q hq; rw [hGs] at z; exact z) ?_
      refine W.widen (k := 600000) (n := 7302250) (by omega) (by omega) ?_
      exact lw_ret hx hb X.2.2.1 X.2.2.2.2.2.2.1 d_law_339
set_option maxHeartbeats 4000000 in
set_option maxRecDepth 100000 in
theorem whole_start {p : Program} {e : Env} {s : State} {m : MethodId} {below : List Frame} {meth : Method} {c : Code} (l : Launch) {b L : Nat} {xs : Nat → Int32} (hL : L ≤ 1536) (C0 : lw_At p s m meth c b L xs) : W p l e room_1 s m #[Value.ref b] below meth c s.heap [] 0 0 (lw_Z below #[Value.ref b] s) (entryFrame m ([Value.ref b] : List Value).toArray 4) := by
  obtain ⟨hx, hb, hr, hml, hown, hts, hX, hbl, hlocks, hgv⟩ := id C0
  obtain ⟨G, hGs, hE, w, f, hfb⟩ := pd_entry (p := p) (m := m) (meth := meth) (c := c) hL hts hX hgv
  have X : pd_B p s m [Value.ref b].toArray meth c G "PolicyDeskLaw" code 4 (some .boolean) := ⟨hx, hb, hr, hml, hown, pd_T_sub hts, hlocks, hE⟩
  have hl := lv_entry ([.ref b]) (n := 4) (Nat.le_of_ble_eq_true rfl)
  rw [lg_entry_eq]
  generalize (lg_sl ([.ref b]) ++ List.replicate (4 - (lg_sl ([.ref b])).length) Slot.unset).toArray = ls at hl ⊢
  have hl : lv_has ls 4 [(0, .ref b)] := hl
  refine pd_new (ci := 0) (C := "PolicyDesk") (T := pd_F0) (N := 10) (fs := [.null, .null, .null, .null, .null, .long 0, .int (nI 0), .int (nI 0), .int (nI 0), .int (nI 0)]) 5 X w rfl mT_32 mT_33 mT_1 (pd_hfs (by decide +kernel)) (by decide) (by decide) d_law_0 (fun q1 H hq2 hz3 w => ?_)
  refine W.widen (k := 1) (n := 10) (by decide) (by decide) ?_
  obtain ⟨h4, u7⟩ : ∃ z, z = pd_up G.2.2.1 q1 (5, .inr (0, [.null, .null, .null, .null, .null, .long 0, .int (nI 0), .int (nI 0), .int (nI 0), .int (nI 0)])) := ⟨_, rfl⟩
  rw [← u7] at w
  have k5 : pd_kx [] G.2.2.1 h4 := by rw [u7]; exact pd_new_kx hq2
  have f6 : h4 q1 = some (5, .inr (0, [.null, .null, .null, .null, .null, .long 0, .int (nI 0), .int (nI 0), .int (nI 0), .int (nI 0)])) := by rw [u7]; exact pd_up_s _ _ _
  refine lv_dup hx hb d_law_3 rfl ?_
  refine pd_cI (a := q1) (As := []) (rest := [.ref q1]) X w (c_PolicyDesk_init l G h4 (by assumption) (by assumption)) ok_PolicyDesk_init rfl mT_35 mT_34 ⟨by decide, by decide⟩ rfl hl.1 rfl (Nat.le_of_ble_eq_true rfl) d_law_4 ⟨by decide, by decide⟩ (fun h9 H locs hp10 w => ?_)
  refine W.widen (k := 74) (n := 2153) (by decide) (by decide) ?_
  obtain ⟨k11, A12, B13, C14, hD15⟩ := hp10
  refine lv_astore_n (lv' := [(1, .ref q1), (0, .ref b)]) hx hb d_law_7 rfl hl (by decide) rfl (fun ls hl => ?_)
  refine pd_new (ci := 10) (C := "PolicyDeskModel") (T := pd_F10) (N := 44) (fs := [.null, .null, .null, .int (nI 0), .int (nI 0), .int (nI 0), .null, .null, .null, .null, .null, .null, .int (nI 0), .null, .null, .null, .null, .null, .null, .null, .int (nI 0), .null, .null, .null, .null, .null, .null, .null, .null, .int (nI 0), .null, .null, .int (nI 0), .int (nI 0), .int (nI 0), .int (nI 0), .long 0, .int (nI 0), .int (nI 0), .int (nI 0), .int (nI 0), .null, .null, .int (nI 0)]) 20 X w rfl mT_1126 mT_1127 mT_21 (pd_hfs (by decide +kernel)) (by decide) (by decide) d_law_8 (fun q16 H hq17 hz18 w => ?_)
  refine W.widen (k := 75) (n := 2197) (by decide) (by decide) ?_
  obtain ⟨h19, u22⟩ : ∃ z, z = pd_up h9 q16 (20, .inr (10, [.null, .null, .null, .int (nI 0), .int (nI 0), .int (nI 0), .null, .null, .null, .null, .null, .null, .int (nI 0), .null, .null, .null, .null, .null, .null, .null, .int (nI 0), .null, .null, .null, .null, .null, .null, .null, .null, .int (nI 0), .null, .null, .int (nI 0), .int (nI 0), .int (nI 0), .int (nI 0), .long 0, .int (nI 0), .int (nI 0), .int (nI 0), .int (nI 0), .null, .null, .int (nI 0)])) := ⟨_, rfl⟩
  rw [← u22] at w
  have k20 : pd_kx [] h9 h19 := by rw [u22]; exact pd_new_kx hq17
  have f21 : h19 q16 = some (20, .inr (10, [.null, .null, .null, .int (nI 0), .int (nI 0), .int (nI 0), .null, .null, .null, .null, .null, .null, .int (nI 0), .null, .null, .null, .null, .null, .null, .null, .int (nI 0), .null, .null, .null, .null, .null, .null, .null, .null, .int (nI 0), .null, .null, .int (nI 0), .int (nI 0), .int (nI 0), .int (nI 0), .long 0, .int (nI 0), .int (nI 0), .int (nI 0), .int (nI 0), .null, .null, .int (nI 0)])) := by rw [u22]; exact pd_up_s _ _ _
  refine lv_dup hx hb d_law_11 rfl ?_
  refine pd_cI (a := q16) (As := []) (rest := [.ref q16]) X w (c_Mod_init l G h19 (by assumption) (by assumption)) ok_Mod_init rfl mT_1129 mT_1128 ⟨by decide, by decide⟩ rfl hl.1 rfl (Nat.le_of_ble_eq_true rfl) d_law_12 ⟨by decide, by decide⟩ (fun h24 H locs hp25 w => ?_)
  refine W.widen (k := 103) (n := 7977) (by decide) (by decide) ?_
  obtain ⟨k27, ad29, fv30, iv31, mo28, hZ32⟩ := hp25
  have k27x : pd_kx [20, 30, 31, 32, 36, 37, 38, 39, 40, 41, 43, 44, 45, 46, 47, 48, 49, 51, 52, 53, 54, 55, 56, 57, 58, 60, 61, 71, 72] h19 h24 := k27
  refine lv_astore_n (lv' := [(2, .ref q16), (1, .ref q1), (0, .ref b)]) hx hb d_law_15 rfl hl (by decide) rfl (fun ls hl => ?_)
  refine lv_iconst (v := nI 0) hx hb d_law_16 (by decide) ?_
  refine lv_istore_n (lv' := [(3, .int (nI 0)), (2, .ref q16), (1, .ref q1), (0, .ref b)]) hx hb d_law_17 rfl hl (by decide) rfl (fun ls hl => ?_)
  exact law_loop l hL hGs X hfb 2000 0 103 7977 h24 gr_z0 ⟨A12, B13, C14, ad29, fv30, iv31, 0, pd_DX.kx hD15 (pd_kx.tr (pd_kx.mono (us := [20, 30, 31, 32, 36, 37, 38, 39, 40, 41, 43, 44, 45, 46, 47, 48, 49, 51, 52, 53, 54, 55, 56, 57, 58, 60, 61, 71, 72]) (k20) (by simp)) (k27x)) (by decide), mo28, hZ32, gm_IT_0⟩ ⟨by decide, by decide⟩ (by decide) (by decide) (by decide) (by decide) _ _ w ls (lv_sub hl [0, 1, 2, 3] rfl)
set_option maxHeartbeats 4000000 in
theorem lw_walk (l : Launch) (b : Addr) (xs : List Int32) : MetFree l x (headSpec (Jvm.Cond.code x code maxLocals ret :: tables_1) room_1) (lw_P b xs) (fun _ _ _ _ _ => True) lw_Q := by
  refine MetFree.of_bodyS (code := code) (maxLocals := maxLocals) (ret := ret) (by decide) ?_ ?_
  · intro args s m h hn
    obtain ⟨meth, c, h1, h2, h3, h4, h5, h6, -, -⟩ := Cond.code_spec hn (atoms_spec (ws := Jvm.Cond.code x code maxLocals ret :: tables_1) h _ List.mem_cons_self)
    exact ⟨meth, c, h1, h2, h3, h4, h5, h6⟩
  · intro p e s m args below meth c s₁ B hml0 hP _
    obtain ⟨rfl, hx, hbd, hgv⟩ := hP
    obtain ⟨scr, harrAt, hlist, hof, hsmall⟩ := hx
    obtain ⟨hcb, hkn, -, -⟩ := State.arrayAt?_spec harrAt
    have hown : s.vm.findClass R_law = some m.cls := findClass_of_methodNamed B.named
    have hts0 : ∀ c ∈ (Jvm.Cond.code x code maxLocals ret :: tables_1), c.before #[Value.ref b] s = true := atoms_spec (ws := Jvm.Cond.code x code maxLocals ret :: tables_1) B.pre
    have hts : ∀ w ∈ lw_tbl, w.before #[Value.ref b] s = true := k2_hts_sels lw_privs (fun w hw => hts0 w (List.mem_cons_of_mem _ hw)) lw_privs_ok
    have hml : c.maxLocals = 4 := B.maxLocals_eq (hts0 _ List.mem_cons_self)
    have X₀ : Stand p l e room_1 s m #[Value.ref b] below meth c s₁ [] 0 0 := Stand.of_body B
    have hh0 : s₁.heap = s.heap := by rw [B.state]; rfl
    have hsz : scr.slots.size = xs.length := by rw [← Array.length_toList, hlist, List.length_map]
    have hval : ∀ j : Nat, j < xs.length → scr.slots[j]? = some (.int (xs.getD j 0)) := fun j hj => by
      rw [← Array.getElem?_toList, hlist]
      simp [hj]
    have hbl : b < s.heap.size := (Array.getElem?_eq_some_iff.mp hcb).1
    have hX : va_X b xs.length (fun j => xs.getD j 0) s s.heap := ⟨scr, hcb, hof, hkn, hsz, hval⟩
    have K : W p l e room_1 s m #[Value.ref b] below meth c s₁.heap [] 0 0 (lw_Z below #[Value.ref b] s) (entryFrame m ([Value.ref b] : List Value).toArray 4) := by
      rw [hh0]
      exact whole_start l hbd ⟨B.exec, B.bytes, B.returns, hml, hown, hts, hX, hbl, B.notSynchronized, hgv⟩
    obtain ⟨t, a1, o, b1, b2, b3⟩ := K s₁ rfl X₀
    exact ⟨t, o, a1, b1, b2, b3⟩
theorem lw_pre_spec {args : Array Value} {s : State} (h : (Jvm.Cond.and given_1 narrow_1).before args s = true) (hr : rest_1_c.before args s = true) : ∃ (b : Addr) (xs : List Int32), lw_P b xs args s := by
  have hs := flat_of_before _ h
  have hq := flat_of_before _ hr
  have hc : (Cond.count 1).before args s = true := hs _ (by decide +kernel)
  have harr : (Cond.arrayOf (.arg 0) .int).before args s = true := hs _ (by decide +kernel)
  have hle : (Cond.le (.length (.arg 0)) (.int 1536)).before args s = true := hs _ (by decide +kernel)
  have hlen : (Cond.isInt (.length (.arg 0))).before args s = true := hq _ (by decide +kernel)
  have hall : (Cond.all (.arg 0) (.isInt (.elem (.arg 0) (.index 0)))).before args s = true := hq _ (by decide +kernel)
  obtain ⟨b, xs, hb, hx⟩ := State.ints_of_pre rfl harr hlen hall
  have hsm : xs.length < 2 ^ 31 := hx.choose_spec.2.2.2
  have hev : (Term.length (.arg 0)).eval args s none [] s = some (.int xs.length.toInt32) := hx.length_eval hb
  have hv := Cond.le_ints hev (show (Term.int 1536).eval args s none [] s = some (.int 1536) from rfl)
  have hd : xs.length.toInt32 ≤ 1536 := by
    simpa [Cond.before, Cond.holds, hv] using hle
  have hN : xs.length ≤ 1536 := (Int32.ofNat_le_ofNat hsm (by decide)).mp (show Int32.ofNat xs.length ≤ Int32.ofNat 1536 from hd)
  exact ⟨b, xs, Cond.one_arg hc (show args[0]? = some (.ref b) from hb), hx, hN, h⟩
theorem lw_comes (l : Launch) : Comes l x (Jvm.Cond.code x code maxLocals ret :: tables_1) room_1 (fun tb e args s => Calls_1 tb e args s ∧ rest_1 tb e args s ∧ Pre_1 tb e args s)
    (fun _ _ args s o t => lw_Q args s o t) := by
  intro p e ha hc hk s m args below hf hfit hheap happ hpre
  obtain ⟨b, xs, hP⟩ := lw_pre_spec hpre.2.2 hpre.2.1
  obtain ⟨k, o, h1, h2, h3, hQ⟩ := lw_walk l b xs p e ha hc hk s m args below hf ((Spec.applies_iff_loose hf).mp happ).1 hP trivial
  exact ⟨k, o, h1, h2, h3, hQ⟩
theorem lw_frame {s t : State} {o : Outcome} {args : Array Value} (h : Framed s o t [] 600000 7302250) :
    Framed s o t (fieldLocs frame_1_writes args s ++ arrayLocs frame_1_arrays args s ++ staticLocs frame_1_statics s) 600000 7302250 := h
theorem lw_limb (L : Cond) (hL : ∀ (args : Array Value) (s t : State), L.after args s (.returned (some (.int 1))) t = true) :
    ArmFor flags0 classFile x code maxLocals ret World_1 tables_1 room_1 Calls_1 rest_1 Pre_1
      (fun tb e a s o t => postC L tb e a s o t ∧ Framed s o t (fieldLocs frame_1_writes a s ++ arrayLocs frame_1_arrays a s ++ staticLocs frame_1_statics s) 600000 7302250) := by
  intro l _ _ _ p e ha hc hk s m args below hf hfit hheap happ hpre
  obtain ⟨k, o, h1, h2, h3, rfl, hF⟩ := lw_comes l p e ha hc hk s m args below hf hfit hheap happ hpre
  exact ⟨k, _, h1, h2, h3, hL args s _, lw_frame hF⟩
theorem i_vc : Claimed_1_1 ∧ Claimed_1_2 := ⟨lw_limb limb_1_1 (fun args s t => by simp [limb_1_1, Cond.after, Cond.holds, Cond.value]), lw_limb limb_1_2 (fun args s t => Cond.after_iff.mpr (by
  first | (rw [show limb_1_2 = Cond.eq .result (.int 1) from rfl, Cond.eq_ints (x := 1) (y := 1) rfl rfl]; simp; done) | (simp [limb_1_2, Cond.value, Term.eval]; done)))⟩
