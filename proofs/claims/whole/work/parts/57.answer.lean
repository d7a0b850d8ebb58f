/-! the reference answers an ask -/
def gm_V (k u : Nat) (U : Nat → pd_rr) : Prop := ∀ j, j < u → ((U j).1 = 7 → ∃ b, (U j).2.2.2 = some b ∧ b < k) ∧ (¬ (U j).1 = 7 → (U j).2.2.2 = none) ∧ (U j).2.2.1 < 1000
theorem gr_bst_v {R : Nat → pd_cr} {M : Nat → pd_mr} {U : Nat → pd_rr} {v1 v2 j : Nat} {o : Option Nat} : ∀ {i t : Nat}, gr_bst R M U v1 v2 j o i = some t → (U t).1 = v1 ∨ (U t).1 = v2
  | 0, _, h => by rw [gr_bst] at h; cases h
  | i + 1, t, h => by
    rw [gr_bst] at h
    split at h
    · rename_i z
      cases h
      have z1 := (Bool.and_eq_true_iff.mp (Bool.and_eq_true_iff.mp z).1).1
      rcases Bool.or_eq_true_iff.mp z1 with y | y
      · exact Or.inl (of_decide_eq_true y)
      · exact Or.inr (of_decide_eq_true y)
    · exact gr_bst_v h
theorem gm_rn_c {k u : Nat} {U : Nat → pd_rr} (hV : gm_V k u U) {t : Nat} (ht : t < u) (h : ¬ (U t).1 = 7) : gm_rn (U t) = (U t).2.2.1 := by
  unfold gm_rn
  rw [(hV t ht).2.1 h]
theorem d_p15m39_0 : decode prog_15_method_39_code 0 = .ok (.aload_n 0, 1) := by decide +kernel
theorem d_p15m39_1 : decode prog_15_method_39_code 1 = .ok (.aload_n 0, 1) := by decide +kernel
theorem d_p15m39_2 : decode prog_15_method_39_code 2 = .ok (.getfield 13, 3) := by decide +kernel
theorem d_p15m39_5 : decode prog_15_method_39_code 5 = .ok (.iconst 1, 1) := by decide +kernel
theorem d_p15m39_6 : decode prog_15_method_39_code 6 = .ok (.iaload, 1) := by decide +kernel
theorem d_p15m39_7 : decode prog_15_method_39_code 7 = .ok (.iload_n 2, 1) := by decide +kernel
theorem d_p15m39_8 : decode prog_15_method_39_code 8 = .ok (.ifCond .eq 10, 3) := by decide +kernel
theorem d_p15m39_11 : decode prog_15_method_39_code 11 = .ok (.aload_n 0, 1) := by decide +kernel
theorem d_p15m39_12 : decode prog_15_method_39_code 12 = .ok (.getfield 130, 3) := by decide +kernel
theorem d_p15m39_15 : decode prog_15_method_39_code 15 = .ok (.goto 9, 3) := by decide +kernel
theorem d_p15m39_18 : decode prog_15_method_39_code 18 = .ok (.aload_n 0, 1) := by decide +kernel
theorem d_p15m39_19 : decode prog_15_method_39_code 19 = .ok (.getfield 16, 3) := by decide +kernel
theorem d_p15m39_22 : decode prog_15_method_39_code 22 = .ok (.iconst 1, 1) := by decide +kernel
theorem d_p15m39_23 : decode prog_15_method_39_code 23 = .ok (.iaload, 1) := by decide +kernel
theorem d_p15m39_24 : decode prog_15_method_39_code 24 = .ok (.invokevirtual 145, 3) := by decide +kernel
theorem d_p15m39_27 : decode prog_15_method_39_code 27 = .ok (.istore_n 3, 1) := by decide +kernel
theorem d_p15m39_28 : decode prog_15_method_39_code 28 = .ok (.iconst (-1), 1) := by decide +kernel
theorem d_p15m39_29 : decode prog_15_method_39_code 29 = .ok (.istore 4, 2) := by decide +kernel
theorem d_p15m39_31 : decode prog_15_method_39_code 31 = .ok (.iload_n 3, 1) := by decide +kernel
theorem d_p15m39_32 : decode prog_15_method_39_code 32 = .ok (.ifCond .ge 6, 3) := by decide +kernel
theorem d_p15m39_35 : decode prog_15_method_39_code 35 = .ok (.bipush (-2), 2) := by decide +kernel
theorem d_p15m39_37 : decode prog_15_method_39_code 37 = .ok (.ireturn, 1) := by decide +kernel
theorem d_p15m39_38 : decode prog_15_method_39_code 38 = .ok (.iload_n 2, 1) := by decide +kernel
theorem d_p15m39_39 : decode prog_15_method_39_code 39 = .ok (.ifCond .eq 43, 3) := by decide +kernel
theorem d_p15m39_42 : decode prog_15_method_39_code 42 = .ok (.aload_n 0, 1) := by decide +kernel
theorem d_p15m39_43 : decode prog_15_method_39_code 43 = .ok (.iload_n 3, 1) := by decide +kernel
theorem d_p15m39_44 : decode prog_15_method_39_code 44 = .ok (.aload_n 0, 1) := by decide +kernel
theorem d_p15m39_45 : decode prog_15_method_39_code 45 = .ok (.getfield 16, 3) := by decide +kernel
theorem d_p15m39_48 : decode prog_15_method_39_code 48 = .ok (.iconst 1, 1) := by decide +kernel
theorem d_p15m39_49 : decode prog_15_method_39_code 49 = .ok (.iaload, 1) := by decide +kernel
theorem d_p15m39_50 : decode prog_15_method_39_code 50 = .ok (.iconst 2, 1) := by decide +kernel
theorem d_p15m39_51 : decode prog_15_method_39_code 51 = .ok (.iload_n 1, 1) := by decide +kernel
theorem d_p15m39_52 : decode prog_15_method_39_code 52 = .ok (.iconst 5, 1) := by decide +kernel
theorem d_p15m39_53 : decode prog_15_method_39_code 53 = .ok (.if_icmp .ne 7, 3) := by decide +kernel
theorem d_p15m39_56 : decode prog_15_method_39_code 56 = .ok (.iconst 1, 1) := by decide +kernel
theorem d_p15m39_57 : decode prog_15_method_39_code 57 = .ok (.goto 4, 3) := by decide +kernel
theorem d_p15m39_60 : decode prog_15_method_39_code 60 = .ok (.iconst 0, 1) := by decide +kernel
theorem d_p15m39_61 : decode prog_15_method_39_code 61 = .ok (.invokevirtual 285, 3) := by decide +kernel
theorem d_p15m39_64 : decode prog_15_method_39_code 64 = .ok (.istore 4, 2) := by decide +kernel
theorem d_p15m39_66 : decode prog_15_method_39_code 66 = .ok (.iload 4, 2) := by decide +kernel
theorem d_p15m39_68 : decode prog_15_method_39_code 68 = .ok (.ifCond .ge 6, 3) := by decide +kernel
theorem d_p15m39_71 : decode prog_15_method_39_code 71 = .ok (.bipush (-2), 2) := by decide +kernel
theorem d_p15m39_73 : decode prog_15_method_39_code 73 = .ok (.ireturn, 1) := by decide +kernel
theorem d_p15m39_74 : decode prog_15_method_39_code 74 = .ok (.aload_n 0, 1) := by decide +kernel
theorem d_p15m39_75 : decode prog_15_method_39_code 75 = .ok (.getfield 42, 3) := by decide +kernel
theorem d_p15m39_78 : decode prog_15_method_39_code 78 = .ok (.iload 4, 2) := by decide +kernel
theorem d_p15m39_80 : decode prog_15_method_39_code 80 = .ok (.iaload, 1) := by decide +kernel
theorem d_p15m39_81 : decode prog_15_method_39_code 81 = .ok (.istore_n 3, 1) := by decide +kernel
theorem d_p15m39_82 : decode prog_15_method_39_code 82 = .ok (.iload_n 1, 1) := by decide +kernel
theorem d_p15m39_83 : decode prog_15_method_39_code 83 = .ok (.iconst 1, 1) := by decide +kernel
theorem d_p15m39_84 : decode prog_15_method_39_code 84 = .ok (.if_icmp .ne 15, 3) := by decide +kernel
theorem d_p15m39_87 : decode prog_15_method_39_code 87 = .ok (.aload_n 0, 1) := by decide +kernel
theorem d_p15m39_88 : decode prog_15_method_39_code 88 = .ok (.getfield 34, 3) := by decide +kernel
theorem d_p15m39_91 : decode prog_15_method_39_code 91 = .ok (.iload_n 3, 1) := by decide +kernel
theorem d_p15m39_92 : decode prog_15_method_39_code 92 = .ok (.baload, 1) := by decide +kernel
theorem d_p15m39_93 : decode prog_15_method_39_code 93 = .ok (.ifCond .eq 6, 3) := by decide +kernel
theorem d_p15m39_96 : decode prog_15_method_39_code 96 = .ok (.bipush (-4), 2) := by decide +kernel
theorem d_p15m39_98 : decode prog_15_method_39_code 98 = .ok (.ireturn, 1) := by decide +kernel
theorem d_p15m39_99 : decode prog_15_method_39_code 99 = .ok (.iload_n 1, 1) := by decide +kernel
theorem d_p15m39_100 : decode prog_15_method_39_code 100 = .ok (.iconst 3, 1) := by decide +kernel
theorem d_p15m39_101 : decode prog_15_method_39_code 101 = .ok (.if_icmp .ne 24, 3) := by decide +kernel
theorem d_p15m39_104 : decode prog_15_method_39_code 104 = .ok (.aload_n 0, 1) := by decide +kernel
theorem d_p15m39_105 : decode prog_15_method_39_code 105 = .ok (.iconst 1, 1) := by decide +kernel
theorem d_p15m39_106 : decode prog_15_method_39_code 106 = .ok (.iload_n 3, 1) := by decide +kernel
theorem d_p15m39_107 : decode prog_15_method_39_code 107 = .ok (.invokevirtual 288, 3) := by decide +kernel
theorem d_p15m39_110 : decode prog_15_method_39_code 110 = .ok (.ifCond .ne 12, 3) := by decide +kernel
theorem d_p15m39_113 : decode prog_15_method_39_code 113 = .ok (.aload_n 0, 1) := by decide +kernel
theorem d_p15m39_114 : decode prog_15_method_39_code 114 = .ok (.iload_n 3, 1) := by decide +kernel
theorem d_p15m39_115 : decode prog_15_method_39_code 115 = .ok (.iconst 1, 1) := by decide +kernel
theorem d_p15m39_116 : decode prog_15_method_39_code 116 = .ok (.invokevirtual 288, 3) := by decide +kernel
theorem d_p15m39_119 : decode prog_15_method_39_code 119 = .ok (.ifCond .eq 6, 3) := by decide +kernel
theorem d_p15m39_122 : decode prog_15_method_39_code 122 = .ok (.bipush (-6), 2) := by decide +kernel
theorem d_p15m39_124 : decode prog_15_method_39_code 124 = .ok (.ireturn, 1) := by decide +kernel
theorem d_p15m39_125 : decode prog_15_method_39_code 125 = .ok (.iload_n 1, 1) := by decide +kernel
theorem d_p15m39_126 : decode prog_15_method_39_code 126 = .ok (.iconst 5, 1) := by decide +kernel
theorem d_p15m39_127 : decode prog_15_method_39_code 127 = .ok (.if_icmp .ne 15, 3) := by decide +kernel
theorem d_p15m39_130 : decode prog_15_method_39_code 130 = .ok (.aload_n 0, 1) := by decide +kernel
theorem d_p15m39_131 : decode prog_15_method_39_code 131 = .ok (.iconst 3, 1) := by decide +kernel
theorem d_p15m39_132 : decode prog_15_method_39_code 132 = .ok (.iconst 3, 1) := by decide +kernel
theorem d_p15m39_133 : decode prog_15_method_39_code 133 = .ok (.iload_n 3, 1) := by decide +kernel
theorem d_p15m39_134 : decode prog_15_method_39_code 134 = .ok (.iload 4, 2) := by decide +kernel
theorem d_p15m39_136 : decode prog_15_method_39_code 136 = .ok (.invokevirtual 291, 3) := by decide +kernel
theorem d_p15m39_139 : decode prog_15_method_39_code 139 = .ok (.goto 4, 3) := by decide +kernel
theorem d_p15m39_142 : decode prog_15_method_39_code 142 = .ok (.iconst (-1), 1) := by decide +kernel
theorem d_p15m39_143 : decode prog_15_method_39_code 143 = .ok (.istore 5, 2) := by decide +kernel
theorem d_p15m39_145 : decode prog_15_method_39_code 145 = .ok (.iload 5, 2) := by decide +kernel
theorem d_p15m39_147 : decode prog_15_method_39_code 147 = .ok (.ifCond .lt 25, 3) := by decide +kernel
theorem d_p15m39_150 : decode prog_15_method_39_code 150 = .ok (.aload_n 0, 1) := by decide +kernel
theorem d_p15m39_151 : decode prog_15_method_39_code 151 = .ok (.dup, 1) := by decide +kernel
theorem d_p15m39_152 : decode prog_15_method_39_code 152 = .ok (.getfield 295, 3) := by decide +kernel
theorem d_p15m39_155 : decode prog_15_method_39_code 155 = .ok (.iconst 1, 1) := by decide +kernel
theorem d_p15m39_156 : decode prog_15_method_39_code 156 = .ok (.iadd, 1) := by decide +kernel
theorem d_p15m39_157 : decode prog_15_method_39_code 157 = .ok (.putfield 295, 3) := by decide +kernel
theorem d_p15m39_160 : decode prog_15_method_39_code 160 = .ok (.sipush 10000, 3) := by decide +kernel
theorem d_p15m39_163 : decode prog_15_method_39_code 163 = .ok (.aload_n 0, 1) := by decide +kernel
theorem d_p15m39_164 : decode prog_15_method_39_code 164 = .ok (.getfield 84, 3) := by decide +kernel
theorem d_p15m39_167 : decode prog_15_method_39_code 167 = .ok (.iload 5, 2) := by decide +kernel
theorem d_p15m39_169 : decode prog_15_method_39_code 169 = .ok (.iaload, 1) := by decide +kernel
theorem d_p15m39_170 : decode prog_15_method_39_code 170 = .ok (.iadd, 1) := by decide +kernel
theorem d_p15m39_171 : decode prog_15_method_39_code 171 = .ok (.ireturn, 1) := by decide +kernel
theorem d_p15m39_172 : decode prog_15_method_39_code 172 = .ok (.aload_n 0, 1) := by decide +kernel
theorem d_p15m39_173 : decode prog_15_method_39_code 173 = .ok (.iconst 0, 1) := by decide +kernel
theorem d_p15m39_174 : decode prog_15_method_39_code 174 = .ok (.iconst 1, 1) := by decide +kernel
theorem d_p15m39_175 : decode prog_15_method_39_code 175 = .ok (.iload_n 3, 1) := by decide +kernel
theorem d_p15m39_176 : decode prog_15_method_39_code 176 = .ok (.iload 4, 2) := by decide +kernel
theorem d_p15m39_178 : decode prog_15_method_39_code 178 = .ok (.invokevirtual 291, 3) := by decide +kernel
theorem d_p15m39_181 : decode prog_15_method_39_code 181 = .ok (.istore 5, 2) := by decide +kernel
theorem d_p15m39_183 : decode prog_15_method_39_code 183 = .ok (.iload 5, 2) := by decide +kernel
theorem d_p15m39_185 : decode prog_15_method_39_code 185 = .ok (.ifCond .ge 6, 3) := by decide +kernel
theorem d_p15m39_188 : decode prog_15_method_39_code 188 = .ok (.bipush (-7), 2) := by decide +kernel
theorem d_p15m39_190 : decode prog_15_method_39_code 190 = .ok (.ireturn, 1) := by decide +kernel
theorem d_p15m39_191 : decode prog_15_method_39_code 191 = .ok (.aload_n 0, 1) := by decide +kernel
theorem d_p15m39_192 : decode prog_15_method_39_code 192 = .ok (.dup, 1) := by decide +kernel
theorem d_p15m39_193 : decode prog_15_method_39_code 193 = .ok (.getfield 295, 3) := by decide +kernel
theorem d_p15m39_196 : decode prog_15_method_39_code 196 = .ok (.iconst 1, 1) := by decide +kernel
theorem d_p15m39_197 : decode prog_15_method_39_code 197 = .ok (.iadd, 1) := by decide +kernel
theorem d_p15m39_198 : decode prog_15_method_39_code 198 = .ok (.putfield 295, 3) := by decide +kernel
theorem d_p15m39_201 : decode prog_15_method_39_code 201 = .ok (.aload_n 0, 1) := by decide +kernel
theorem d_p15m39_202 : decode prog_15_method_39_code 202 = .ok (.getfield 63, 3) := by decide +kernel
theorem d_p15m39_205 : decode prog_15_method_39_code 205 = .ok (.iload 5, 2) := by decide +kernel
theorem d_p15m39_207 : decode prog_15_method_39_code 207 = .ok (.iaload, 1) := by decide +kernel
theorem d_p15m39_208 : decode prog_15_method_39_code 208 = .ok (.iconst 1, 1) := by decide +kernel
theorem d_p15m39_209 : decode prog_15_method_39_code 209 = .ok (.if_icmp .eq 31, 3) := by decide +kernel
theorem d_p15m39_212 : decode prog_15_method_39_code 212 = .ok (.iload_n 1, 1) := by decide +kernel
theorem d_p15m39_213 : decode prog_15_method_39_code 213 = .ok (.iconst 5, 1) := by decide +kernel
theorem d_p15m39_214 : decode prog_15_method_39_code 214 = .ok (.if_icmp .ne 29, 3) := by decide +kernel
theorem d_p15m39_217 : decode prog_15_method_39_code 217 = .ok (.aload_n 0, 1) := by decide +kernel
theorem d_p15m39_218 : decode prog_15_method_39_code 218 = .ok (.getfield 45, 3) := by decide +kernel
theorem d_p15m39_221 : decode prog_15_method_39_code 221 = .ok (.iload 4, 2) := by decide +kernel
theorem d_p15m39_223 : decode prog_15_method_39_code 223 = .ok (.iaload, 1) := by decide +kernel
theorem d_p15m39_224 : decode prog_15_method_39_code 224 = .ok (.iconst 2, 1) := by decide +kernel
theorem d_p15m39_225 : decode prog_15_method_39_code 225 = .ok (.iand, 1) := by decide +kernel
theorem d_p15m39_226 : decode prog_15_method_39_code 226 = .ok (.ifCond .eq 17, 3) := by decide +kernel
theorem d_p15m39_229 : decode prog_15_method_39_code 229 = .ok (.aload_n 0, 1) := by decide +kernel
theorem d_p15m39_230 : decode prog_15_method_39_code 230 = .ok (.getfield 75, 3) := by decide +kernel
theorem d_p15m39_233 : decode prog_15_method_39_code 233 = .ok (.iload 5, 2) := by decide +kernel
theorem d_p15m39_235 : decode prog_15_method_39_code 235 = .ok (.iaload, 1) := by decide +kernel
theorem d_p15m39_236 : decode prog_15_method_39_code 236 = .ok (.iconst 2, 1) := by decide +kernel
theorem d_p15m39_237 : decode prog_15_method_39_code 237 = .ok (.if_icmp .ge 6, 3) := by decide +kernel
theorem d_p15m39_240 : decode prog_15_method_39_code 240 = .ok (.bipush (-7), 2) := by decide +kernel
theorem d_p15m39_242 : decode prog_15_method_39_code 242 = .ok (.ireturn, 1) := by decide +kernel
theorem d_p15m39_243 : decode prog_15_method_39_code 243 = .ok (.aload_n 0, 1) := by decide +kernel
theorem d_p15m39_244 : decode prog_15_method_39_code 244 = .ok (.iconst 2, 1) := by decide +kernel
theorem d_p15m39_245 : decode prog_15_method_39_code 245 = .ok (.iconst 2, 1) := by decide +kernel
theorem d_p15m39_246 : decode prog_15_method_39_code 246 = .ok (.iload_n 3, 1) := by decide +kernel
theorem d_p15m39_247 : decode prog_15_method_39_code 247 = .ok (.iload 4, 2) := by decide +kernel
theorem d_p15m39_249 : decode prog_15_method_39_code 249 = .ok (.invokevirtual 291, 3) := by decide +kernel
theorem d_p15m39_252 : decode prog_15_method_39_code 252 = .ok (.istore 5, 2) := by decide +kernel
theorem d_p15m39_254 : decode prog_15_method_39_code 254 = .ok (.iload 5, 2) := by decide +kernel
theorem d_p15m39_256 : decode prog_15_method_39_code 256 = .ok (.ifCond .ge 7, 3) := by decide +kernel
theorem d_p15m39_259 : decode prog_15_method_39_code 259 = .ok (.iconst 1, 1) := by decide +kernel
theorem d_p15m39_260 : decode prog_15_method_39_code 260 = .ok (.goto 10, 3) := by decide +kernel
theorem d_p15m39_263 : decode prog_15_method_39_code 263 = .ok (.aload_n 0, 1) := by decide +kernel
theorem d_p15m39_264 : decode prog_15_method_39_code 264 = .ok (.getfield 84, 3) := by decide +kernel
theorem d_p15m39_267 : decode prog_15_method_39_code 267 = .ok (.iload 5, 2) := by decide +kernel
theorem d_p15m39_269 : decode prog_15_method_39_code 269 = .ok (.iaload, 1) := by decide +kernel
theorem d_p15m39_270 : decode prog_15_method_39_code 270 = .ok (.ireturn, 1) := by decide +kernel
abbrev y_Mod_answerC : MethodName := ⟨"PolicyDeskModel", "answer", "(IZ)I"⟩
theorem ok_Mod_answerC : pd_ok y_Mod_answerC prog_15_method_39_code 6 (some .int) 2 := ⟨mT_1396, mT_21, by decide, by decide +kernel⟩
abbrev rm_Mod_answerC : Room := { frames := 3, cells := 0, slots := 0, locals := 76 }
set_option maxHeartbeats 4000000 in
set_option maxRecDepth 100000 in
theorem c_Mod_answerC (l : Launch) (G : pd_G) (h : pd_H) {y : Nat} {ad : Nat → Nat} {fv : Nat → Nat → Int32} {iv : Nat → Int32} {tl : Int64} {cs : List Nat} {n : Nat} {R : Nat → pd_cr} {k : Nat} {M : Nat → pd_mr} {u : Nat} {U : Nat → pd_rr} {nw dn : Nat} {sA eA : Nat → Nat} {wt : Nat} (hMO : pd_MO G h y ad fv iv tl) (hL : gm_L fv iv cs) (hC : gm_C fv iv n R) (hM : gm_M fv iv n k M) (hU : gm_U fv iv u U) (hK : gm_K n R) (hB : gm_B n R) (hV : gm_V k u U) (hW : gm_W fv cs nw sA eA) (hiv34 : iv 34 = nI dn) (hw1 : tx_sub cs (sA 1) (eA 1) = gr_w cs 1) (hnw : 2 ≤ nw) (hwt : 1 ≤ wt ∧ wt ≤ 3) : pd_M l y_Mod_answerC prog_15_method_39_code 6 (some .int) rm_Mod_answerC G h [.ref y, .int (nI wt), .int (nI 0)] Value.int (fun r h1 => r = (gr_jc n R M u U cs (wt + 7)).1 ∧ pd_kx [20, 71, 72] h h1 ∧ ∃ fo1 fo2 v43, pd_MO G h1 y ad (pd_fu (pd_fu fv 41 fo1) 42 fo2) (pd_fu (pd_fu iv 34 (nI (dn + (gr_jc n R M u U cs (wt + 7)).2))) 43 v43) tl) := by
  refine pd_M.of (by decide) (Nat.le_of_ble_eq_true rfl) ?_
  intro p e s m below meth c X hmn w ls hl
  have hx := X.1
  have hb := X.2.1
  have hl : lv_has ls 6 [(0, .ref y), (1, .int (nI wt)), (2, .int (nI 0))] := hl
  have hz_y := hMO.2.1
  have hy0 : h y = some (20, .inr (10, [.ref (ad 0), .ref (ad 1), .ref (ad 2), .int (iv 3), .int (iv 4), .int (iv 5), .ref (ad 6), .ref (ad 7), .ref (ad 8), .ref (ad 9), .ref (ad 10), .ref (ad 11), .int (iv 12), .ref (ad 13), .ref (ad 14), .ref (ad 15), .ref (ad 16), .ref (ad 17), .ref (ad 18), .ref (ad 19), .int (iv 20), .ref (ad 21), .ref (ad 22), .ref (ad 23), .ref (ad 24), .ref (ad 25), .ref (ad 26), .ref (ad 27), .ref (ad 28), .int (iv 29), .ref (ad 30), .ref (ad 31), .int (iv 32), .int (iv 33), .int (iv 34), .int (iv 35), .long tl, .int (iv 37), .int (iv 38), .int (iv 39), .int (iv 40), .ref (ad 41), .ref (ad 42), .int (iv 43)])) := hMO.1
  have ha1 : h (ad 1) = some (31, .inl (.int, 40, .inl (fv 1))) := (hMO.2.2 1 (by decide)).1
  have ha2 : h (ad 2) = some (32, .inl (.int, 40, .inl (fv 2))) := (hMO.2.2 2 (by decide)).1
  have ha11 : h (ad 11) = some (41, .inl (.boolean, 14, .inl (fv 11))) := (hMO.2.2 11 (by decide)).1
  have ha13 : h (ad 13) = some (43, .inl (.int, 24, .inl (fv 13))) := (hMO.2.2 13 (by decide)).1
  have ha14 : h (ad 14) = some (44, .inl (.int, 24, .inl (fv 14))) := (hMO.2.2 14 (by decide)).1
  have ha21 : h (ad 21) = some (51, .inl (.int, 24, .inl (fv 21))) := (hMO.2.2 21 (by decide)).1
  have ha25 : h (ad 25) = some (55, .inl (.int, 24, .inl (fv 25))) := (hMO.2.2 25 (by decide)).1
  have ha28 : h (ad 28) = some (58, .inl (.int, 24, .inl (fv 28))) := (hMO.2.2 28 (by decide)).1
  have ha41 : h (ad 41) = some (71, .inl (.int, 16, .inl (fv 41))) := (hMO.2.2 41 (by decide)).1
  have ha42 : h (ad 42) = some (72, .inl (.int, 32, .inl (fv 42))) := (hMO.2.2 42 (by decide)).1
  obtain ⟨hiv3, hln, hl60, hlc⟩ := id hL
  obtain ⟨hiv12, hn2, hn14, hCc⟩ := id hC
  obtain ⟨hiv20, hk24, hMm⟩ := id hM
  obtain ⟨hiv29, hu24, hUu⟩ := id hU
  have hw31 := hW.1
  have hwl1 := (hW.2 1 (by omega)).2.2
  refine lv_aload_n hx hb d_p15m39_0 rfl (lv_at hl 0 rfl) ?_
  refine lv_aload_n hx hb d_p15m39_1 rfl (lv_at hl 0 rfl) ?_
  refine pd_get X w hy0 rfl 1 (by decide) mT_1140 rfl rfl d_p15m39_2 ?_
  refine lv_iconst (v := nI 1) hx hb d_p15m39_5 (by decide) ?_
  refine pd_iald X w ha1 (by omega) (by omega) d_p15m39_6 ?_
  refine pd_top (v' := .int (nI (sA 1))) (congrArg Value.int (hW.2 1 (by omega)).1) ?_
  refine lv_iload_n hx hb d_p15m39_7 rfl (lv_at hl 2 rfl) ?_
  refine pd_zeq (tgt := 18) hx hb d_p15m39_8 (by decide) (by decide) (fun _ => ?_) (fun q => absurd q (by decide))
  refine lv_aload_n hx hb d_p15m39_18 rfl (lv_at hl 0 rfl) ?_
  refine pd_get X w hy0 rfl 2 (by decide) mT_1141 rfl rfl d_p15m39_19 ?_
  refine lv_iconst (v := nI 1) hx hb d_p15m39_22 (by decide) ?_
  refine pd_iald X w ha2 (by omega) (by omega) d_p15m39_23 ?_
  refine pd_top (v' := .int (nI (eA 1))) (congrArg Value.int (hW.2 1 (by omega)).2.1) ?_
  refine pd_cV (a := y) (As := [.int (nI (sA 1)), .int (nI (eA 1))]) (rest := []) X w hy0 rfl (c_Mod_find l G h (ad := ad) (fv := fv) (iv := iv) (tl := tl) hMO hL hC (by omega) (by omega)) ok_Mod_find ⟨mT_1326, sT_21⟩ mT_1324 ⟨by decide, by decide⟩ rfl hl.1 rfl (Nat.le_of_ble_eq_true rfl) d_p15m39_24 ⟨by decide, by decide⟩ (fun r2 h3 H locs hp4 w => ?_)
  refine W.widen (k := 0) (n := 0) (by decide) (by decide) ?_
  obtain ⟨e5, rfl⟩ := hp4
  refine lv_istore_n (lv' := [(3, .int (pd_m r2)), (0, .ref y), (1, .int (nI wt)), (2, .int (nI 0))]) hx hb d_p15m39_27 rfl hl (by decide) rfl (fun ls hl => ?_)
  refine lv_iconst (v := -1) hx hb d_p15m39_28 (by decide) ?_
  refine lv_istore (lv' := [(4, .int (-1)), (3, .int (pd_m r2)), (0, .ref y), (1, .int (nI wt)), (2, .int (nI 0))]) hx hb d_p15m39_29 hl (by decide) rfl (fun ls hl => ?_)
  refine lv_iload_n hx hb d_p15m39_31 rfl (lv_at hl 1 rfl) ?_
  refine pd_mge (tgt := 38) hx hb d_p15m39_32 (by decide) (fun x hx => by have z := gr_fi_lt (e5.symm.trans hx); omega) (fun q6 => ?_) (fun j7 q6 => ?_)
  · -- none: 35
    rw [q6] at e5
    rw [q6] at hl
    have hl : lv_has ls 6 [(4, .int (-1)), (3, .int (-1)), (0, .ref y), (1, .int (nI wt)), (2, .int (nI 0))] := hl
    refine lv_bipush (v := -2) hx hb d_p15m39_35 (by decide) ?_
    have hg : gr_jc n R M u U cs (wt + 7) = (-2, 0) := by unfold gr_jc; rw [← hw1]; simp only [e5.symm]
    exact pd_iret (v := (-2)) X w ⟨by rw [hg], pd_kx.rf, fv 41, fv 42, (iv 43), (by rw [hg]; exact pd_MO.ext hMO (fun j9 hj9 => by by_cases e9 : j9 = 42; subst e9; rfl; by_cases e8 : j9 = 41; subst e8; rfl; simp only [pd_fu, if_neg e9, if_neg e8]) (by show pd_mv ad (pd_fu (pd_fu iv 34 (nI dn)) 43 _) tl = _; rw [pd_fu_id (f := iv) (n := 34) hiv34] <;> rfl))⟩ (by decide) (by decide) d_p15m39_37
  · -- some: 38
    rw [q6] at e5
    rw [q6] at hl
    have hl : lv_has ls 6 [(4, .int (-1)), (3, .int (nI j7)), (0, .ref y), (1, .int (nI wt)), (2, .int (nI 0))] := hl
    have j7lt := gr_fi_lt e5.symm
    refine lv_iload_n hx hb d_p15m39_38 rfl (lv_at hl 4 rfl) ?_
    refine pd_zeq (tgt := 82) hx hb d_p15m39_39 (by decide) (by decide) (fun _ => ?_) (fun q => absurd q (by decide))
    refine lv_iload_n hx hb d_p15m39_82 rfl (lv_at hl 3 rfl) ?_
    refine lv_iconst (v := nI 1) hx hb d_p15m39_83 (by decide) ?_
    refine pd_jne (tgt := 99) hx hb d_p15m39_84 (by decide) (by omega) (by omega) (fun q9 => ?_) (fun q9 => ?_)
    · -- taken: 99
      refine lv_iload_n hx hb d_p15m39_99 rfl (lv_at hl 3 rfl) ?_
      refine lv_iconst (v := nI 3) hx hb d_p15m39_100 (by decide) ?_
      refine pd_jne (tgt := 125) hx hb d_p15m39_101 (by decide) (by omega) (by omega) (fun q10 => ?_) (fun q10 => ?_)
      · -- taken: 125
        refine lv_iload_n hx hb d_p15m39_125 rfl (lv_at hl 3 rfl) ?_
        refine lv_iconst (v := nI 5) hx hb d_p15m39_126 (by decide) ?_
        refine pd_jne (tgt := 142) hx hb d_p15m39_127 (by decide) (by omega) (by omega) (fun q11 => ?_) (fun q11 => ?_)
        · -- taken: 142
          refine lv_iconst (v := -1) hx hb d_p15m39_142 (by decide) ?_
          refine lv_istore (lv' := [(5, .int (-1)), (4, .int (-1)), (3, .int (nI j7)), (0, .ref y), (1, .int (nI wt)), (2, .int (nI 0))]) hx hb d_p15m39_143 hl (by decide) rfl (fun ls hl => ?_)
          refine lv_iload hx hb d_p15m39_145 (lv_at hl 0 rfl) ?_
          refine lv_if_lt (tgt := 172) hx hb d_p15m39_147 (by decide) (fun _ => ?_) (fun q => absurd (by decide) q)
          refine lv_aload_n hx hb d_p15m39_172 rfl (lv_at hl 3 rfl) ?_
          refine lv_iconst (v := nI 0) hx hb d_p15m39_173 (by decide) ?_
          refine lv_iconst (v := nI 1) hx hb d_p15m39_174 (by decide) ?_
          refine lv_iload_n hx hb d_p15m39_175 rfl (lv_at hl 2 rfl) ?_
          refine lv_iload hx hb d_p15m39_176 (lv_at hl 1 rfl) ?_
          refine pd_cV (a := y) (As := [.int (nI 0), .int (nI 1), .int (nI j7), .int (-1)]) (rest := []) X w hy0 rfl (c_Mod_best l G h (n := n) (R := R) (k := k) (M := M) (u := u) (U := U) (w1 := 0) (w2 := 1) (c9 := j7) (o := none) (ad := ad) (fv := fv) (iv := iv) (tl := tl) hMO hC hM hU (by omega) (by omega) (by omega) (fun t ht => by cases ht)) ok_Mod_best ⟨mT_1415, sT_41⟩ mT_1413 ⟨by decide, by decide⟩ rfl hl.1 rfl (Nat.le_of_ble_eq_true rfl) d_p15m39_178 ⟨by decide, by decide⟩ (fun r13 h14 H locs hp15 w => ?_)
          refine W.widen (k := 0) (n := 0) (by decide) (by decide) ?_
          obtain ⟨e16, rfl⟩ := hp15
          refine lv_istore (lv' := [(5, .int (pd_m r13)), (4, .int (-1)), (3, .int (nI j7)), (0, .ref y), (1, .int (nI wt)), (2, .int (nI 0))]) hx hb d_p15m39_181 hl (by decide) rfl (fun ls hl => ?_)
          refine lv_iload hx hb d_p15m39_183 (lv_at hl 0 rfl) ?_
          refine pd_mge (tgt := 191) hx hb d_p15m39_185 (by decide) (fun x hx => by have z := gr_bst_lt (e16.symm.trans hx); omega) (fun q17 => ?_) (fun j18 q17 => ?_)
          · -- none: 188
            rw [q17] at e16
            rw [q17] at hl
            have hl : lv_has ls 6 [(5, .int (-1)), (4, .int (-1)), (3, .int (nI j7)), (0, .ref y), (1, .int (nI wt)), (2, .int (nI 0))] := hl
            refine lv_bipush (v := -7) hx hb d_p15m39_188 (by decide) ?_
            have hwg : gr_wg R M u U j7 none = (-7, 0) := by unfold gr_wg; simp only [e16.symm]
            have hg : gr_jc n R M u U cs (wt + 7) = (-7, 0) := by unfold gr_jc; rw [← hw1]; simp only [e5.symm]; rw [if_neg (fun h9 => by omega), if_neg (fun h9 => by omega)]; exact hwg
            exact pd_iret (v := (-7)) X w ⟨by rw [hg], pd_kx.rf, fv 41, fv 42, (iv 43), (by rw [hg]; exact pd_MO.ext hMO (fun j9 hj9 => by by_cases e9 : j9 = 42; subst e9; rfl; by_cases e8 : j9 = 41; subst e8; rfl; simp only [pd_fu, if_neg e9, if_neg e8]) (by show pd_mv ad (pd_fu (pd_fu iv 34 (nI dn)) 43 _) tl = _; rw [pd_fu_id (f := iv) (n := 34) hiv34] <;> rfl))⟩ (by decide) (by decide) d_p15m39_190
          · -- some: 191
            rw [q17] at e16
            rw [q17] at hl
            have hl : lv_has ls 6 [(5, .int (nI j18)), (4, .int (-1)), (3, .int (nI j7)), (0, .ref y), (1, .int (nI wt)), (2, .int (nI 0))] := hl
            have j18lt := gr_bst_lt e16.symm
            refine lv_aload_n hx hb d_p15m39_191 rfl (lv_at hl 3 rfl) ?_
            refine lv_dup hx hb d_p15m39_192 rfl ?_
            refine pd_get X w hy0 rfl 34 (by decide) mT_1173 rfl rfl d_p15m39_193 ?_
            refine pd_top (v' := .int (nI dn)) (congrArg Value.int hiv34) ?_
            refine lv_iconst (v := nI 1) hx hb d_p15m39_196 (by decide) ?_
            refine pd_iadd hx hb d_p15m39_197 ?_
            refine pd_put (ty := .int) X w hy0 hz_y rfl 34 (by decide) mT_1173 rfl rfl (by decide +kernel) rfl rfl (Nat.le_of_ble_eq_true rfl) d_p15m39_198 (fun H locs w => ?_)
            have w : pd_w G s H locs (pd_up h y (20, .inr (10, [.ref (ad 0), .ref (ad 1), .ref (ad 2), .int (iv 3), .int (iv 4), .int (iv 5), .ref (ad 6), .ref (ad 7), .ref (ad 8), .ref (ad 9), .ref (ad 10), .ref (ad 11), .int (iv 12), .ref (ad 13), .ref (ad 14), .ref (ad 15), .ref (ad 16), .ref (ad 17), .ref (ad 18), .ref (ad 19), .int (iv 20), .ref (ad 21), .ref (ad 22), .ref (ad 23), .ref (ad 24), .ref (ad 25), .ref (ad 26), .ref (ad 27), .ref (ad 28), .int (iv 29), .ref (ad 30), .ref (ad 31), .int (iv 32), .int (iv 33), .int (nI (dn + 1)), .int (iv 35), .long tl, .int (iv 37), .int (iv 38), .int (iv 39), .int (iv 40), .ref (ad 41), .ref (ad 42), .int (iv 43)]))) := w
            obtain ⟨h19, u22⟩ : ∃ z, z = pd_up h y (20, .inr (10, [.ref (ad 0), .ref (ad 1), .ref (ad 2), .int (iv 3), .int (iv 4), .int (iv 5), .ref (ad 6), .ref (ad 7), .ref (ad 8), .ref (ad 9), .ref (ad 10), .ref (ad 11), .int (iv 12), .ref (ad 13), .ref (ad 14), .ref (ad 15), .ref (ad 16), .ref (ad 17), .ref (ad 18), .ref (ad 19), .int (iv 20), .ref (ad 21), .ref (ad 22), .ref (ad 23), .ref (ad 24), .ref (ad 25), .ref (ad 26), .ref (ad 27), .ref (ad 28), .int (iv 29), .ref (ad 30), .ref (ad 31), .int (iv 32), .int (iv 33), .int (nI (dn + 1)), .int (iv 35), .long tl, .int (iv 37), .int (iv 38), .int (iv 39), .int (iv 40), .ref (ad 41), .ref (ad 42), .int (iv 43)])) := ⟨_, rfl⟩
            rw [← u22] at w
            have k20 : pd_kq y h h19 := by rw [u22]; exact pd_up_kq
            have f21 : h19 y = some (20, .inr (10, [.ref (ad 0), .ref (ad 1), .ref (ad 2), .int (iv 3), .int (iv 4), .int (iv 5), .ref (ad 6), .ref (ad 7), .ref (ad 8), .ref (ad 9), .ref (ad 10), .ref (ad 11), .int (iv 12), .ref (ad 13), .ref (ad 14), .ref (ad 15), .ref (ad 16), .ref (ad 17), .ref (ad 18), .ref (ad 19), .int (iv 20), .ref (ad 21), .ref (ad 22), .ref (ad 23), .ref (ad 24), .ref (ad 25), .ref (ad 26), .ref (ad 27), .ref (ad 28), .int (iv 29), .ref (ad 30), .ref (ad 31), .int (iv 32), .int (iv 33), .int (nI (dn + 1)), .int (iv 35), .long tl, .int (iv 37), .int (iv 38), .int (iv 39), .int (iv 40), .ref (ad 41), .ref (ad 42), .int (iv 43)])) := by rw [u22]; exact pd_up_s _ _ _
            have f23 := k20 _ _ (pd_ne ha1 hy0 (by simp)) ha1
            have f24 := k20 _ _ (pd_ne ha2 hy0 (by simp)) ha2
            have f25 := k20 _ _ (pd_ne ha11 hy0 (by simp)) ha11
            have f26 := k20 _ _ (pd_ne ha13 hy0 (by simp)) ha13
            have f27 := k20 _ _ (pd_ne ha14 hy0 (by simp)) ha14
            have f28 := k20 _ _ (pd_ne ha21 hy0 (by simp)) ha21
            have f29 := k20 _ _ (pd_ne ha25 hy0 (by simp)) ha25
            have f30 := k20 _ _ (pd_ne ha28 hy0 (by simp)) ha28
            have f31 := k20 _ _ (pd_ne ha41 hy0 (by simp)) ha41
            have f32 := k20 _ _ (pd_ne ha42 hy0 (by simp)) ha42
            refine lv_aload_n hx hb d_p15m39_201 rfl (lv_at hl 3 rfl) ?_
            refine pd_get X w f21 rfl 21 (by decide) mT_1160 rfl rfl d_p15m39_202 ?_
            refine lv_iload hx hb d_p15m39_205 (lv_at hl 0 rfl) ?_
            refine pd_iald X w f28 (by omega) (by omega) d_p15m39_207 ?_
            refine pd_top (v' := .int (nI ((U j18).1 - 4))) (congrArg Value.int (hUu j18 (by omega)).1) ?_
            have hv47 := (hUu j18 (by omega)).2.1
            refine lv_iconst (v := nI 1) hx hb d_p15m39_208 (by decide) ?_
            refine pd_jeq (tgt := 240) hx hb d_p15m39_209 (by decide) (by omega) (by omega) (fun q33 => ?_) (fun q33 => ?_)
            · -- taken: 240
              refine lv_bipush (v := -7) hx hb d_p15m39_240 (by decide) ?_
              have hwg : gr_wg R M u U j7 none = (-7, 1) := by unfold gr_wg; simp only [e16.symm]; rw [if_pos (Or.inl (by omega))]
              have hg : gr_jc n R M u U cs (wt + 7) = (-7, 1) := by unfold gr_jc; rw [← hw1]; simp only [e5.symm]; rw [if_neg (fun h9 => by omega), if_neg (fun h9 => by omega)]; exact hwg
              have mo34 : pd_MO G h19 y ad fv (pd_fu iv 34 (nI (dn + 1))) tl := pd_MO.of (ts := [20]) hMO (pd_kq.kx (k20) hy0) f21 (fun j hj => Or.inr ⟨fun z => by first | (simp at z; done) | (simp at z; omega), rfl⟩)
              exact pd_iret (v := (-7)) X w ⟨by rw [hg], pd_kx.mono (us := [20, 71, 72]) (pd_kq.kx (k20) hy0) (by simp), fv 41, fv 42, (iv 43), (by rw [hg]; exact pd_MO.ext mo34 (fun j9 hj9 => by by_cases e9 : j9 = 42; subst e9; rfl; by_cases e8 : j9 = 41; subst e8; rfl; simp only [pd_fu, if_neg e9, if_neg e8]) (rfl))⟩ (by decide) (by decide) d_p15m39_242
            · -- not taken: 212
              refine lv_iload_n hx hb d_p15m39_212 rfl (lv_at hl 4 rfl) ?_
              refine lv_iconst (v := nI 5) hx hb d_p15m39_213 (by decide) ?_
              refine pd_jne (tgt := 243) hx hb d_p15m39_214 (by decide) (by omega) (by omega) (fun q35 => ?_) (fun q35 => ?_)
              · -- taken: 243
                refine lv_aload_n hx hb d_p15m39_243 rfl (lv_at hl 3 rfl) ?_
                refine lv_iconst (v := nI 2) hx hb d_p15m39_244 (by decide) ?_
                refine lv_iconst (v := nI 2) hx hb d_p15m39_245 (by decide) ?_
                refine lv_iload_n hx hb d_p15m39_246 rfl (lv_at hl 2 rfl) ?_
                refine lv_iload hx hb d_p15m39_247 (lv_at hl 1 rfl) ?_
                have mo36 : pd_MO G h19 y ad fv (pd_fu iv 34 (nI (dn + 1))) tl := pd_MO.of (ts := [20]) hMO (pd_kq.kx (k20) hy0) f21 (fun j hj => Or.inr ⟨fun z => by first | (simp at z; done) | (simp at z; omega), rfl⟩)
                refine pd_cV (a := y) (As := [.int (nI 2), .int (nI 2), .int (nI j7), .int (-1)]) (rest := []) X w f21 rfl (c_Mod_best l G h19 (n := n) (R := R) (k := k) (M := M) (u := u) (U := U) (w1 := 2) (w2 := 2) (c9 := j7) (o := none) (ad := ad) (fv := fv) (iv := pd_fu iv 34 (nI (dn + 1))) (tl := tl) mo36 hC hM hU (by omega) (by omega) (by omega) (fun t ht => by cases ht)) ok_Mod_best ⟨mT_1415, sT_41⟩ mT_1413 ⟨by decide, by decide⟩ rfl hl.1 rfl (Nat.le_of_ble_eq_true rfl) d_p15m39_249 ⟨by decide, by decide⟩ (fun r37 h38 H locs hp39 w => ?_)
                refine W.widen (k := 0) (n := 0) (by decide) (by decide) ?_
                obtain ⟨e40, rfl⟩ := hp39
                refine lv_istore (lv' := [(5, .int (pd_m r37)), (4, .int (-1)), (3, .int (nI j7)), (0, .ref y), (1, .int (nI wt)), (2, .int (nI 0))]) hx hb d_p15m39_252 hl (by decide) rfl (fun ls hl => ?_)
                refine lv_iload hx hb d_p15m39_254 (lv_at hl 0 rfl) ?_
                refine pd_mge (tgt := 263) hx hb d_p15m39_256 (by decide) (fun x hx => by have z := gr_bst_lt (e40.symm.trans hx); omega) (fun q41 => ?_) (fun j42 q41 => ?_)
                · -- none: 259
                  rw [q41] at e40
                  rw [q41] at hl
                  have hl : lv_has ls 6 [(5, .int (-1)), (4, .int (-1)), (3, .int (nI j7)), (0, .ref y), (1, .int (nI wt)), (2, .int (nI 0))] := hl
                  refine lv_iconst (v := nI 1) hx hb d_p15m39_259 (by decide) ?_
                  refine lv_goto (tgt := 270) hx hb d_p15m39_260 (by decide) ?_
                  have hwg : gr_wg R M u U j7 none = (nI 1, 1) := by unfold gr_wg; simp only [e16.symm]; rw [if_neg (fun h9 => h9.elim (fun y => by omega) (fun y => by cases y.1))]; simp only [e40.symm]
                  have hg : gr_jc n R M u U cs (wt + 7) = (nI 1, 1) := by unfold gr_jc; rw [← hw1]; simp only [e5.symm]; rw [if_neg (fun h9 => by omega), if_neg (fun h9 => by omega)]; exact hwg
                  have mo43 : pd_MO G h19 y ad fv (pd_fu iv 34 (nI (dn + 1))) tl := pd_MO.of (ts := [20]) hMO (pd_kq.kx (k20) hy0) f21 (fun j hj => Or.inr ⟨fun z => by first | (simp at z; done) | (simp at z; omega), rfl⟩)
                  exact pd_iret (v := (nI 1)) X w ⟨by rw [hg], pd_kx.mono (us := [20, 71, 72]) (pd_kq.kx (k20) hy0) (by simp), fv 41, fv 42, (iv 43), (by rw [hg]; exact pd_MO.ext mo43 (fun j9 hj9 => by by_cases e9 : j9 = 42; subst e9; rfl; by_cases e8 : j9 = 41; subst e8; rfl; simp only [pd_fu, if_neg e9, if_neg e8]) (rfl))⟩ (by decide) (by decide) d_p15m39_270
                · -- some: 263
                  rw [q41] at e40
                  rw [q41] at hl
                  have hl : lv_has ls 6 [(5, .int (nI j42)), (4, .int (-1)), (3, .int (nI j7)), (0, .ref y), (1, .int (nI wt)), (2, .int (nI 0))] := hl
                  have j42lt := gr_bst_lt e40.symm
                  refine lv_aload_n hx hb d_p15m39_263 rfl (lv_at hl 3 rfl) ?_
                  refine pd_get X w f21 rfl 28 (by decide) mT_1167 rfl rfl d_p15m39_264 ?_
                  refine lv_iload hx hb d_p15m39_267 (lv_at hl 0 rfl) ?_
                  refine pd_iald X w f30 (by omega) (by omega) d_p15m39_269 ?_
                  refine pd_top (v' := .int (nI (gm_rn (U j42)))) (congrArg Value.int (hUu j42 (by omega)).2.2.2.2.2.2.2.2.2.1) ?_
                  have hrn := (hUu j42 (by omega)).2.2.2.2.2.2.2.2.2.2
                  have hwg : gr_wg R M u U j7 none = (nI (gm_rn (U j42)), 1) := by unfold gr_wg; simp only [e16.symm]; rw [if_neg (fun h9 => h9.elim (fun y => by omega) (fun y => by cases y.1))]; simp only [e40.symm]; rw [gm_rn_c hV j42lt (by have z9 := gr_bst_v e40.symm; omega)]
                  have hg : gr_jc n R M u U cs (wt + 7) = (nI (gm_rn (U j42)), 1) := by unfold gr_jc; rw [← hw1]; simp only [e5.symm]; rw [if_neg (fun h9 => by omega), if_neg (fun h9 => by omega)]; exact hwg
                  have mo44 : pd_MO G h19 y ad fv (pd_fu iv 34 (nI (dn + 1))) tl := pd_MO.of (ts := [20]) hMO (pd_kq.kx (k20) hy0) f21 (fun j hj => Or.inr ⟨fun z => by first | (simp at z; done) | (simp at z; omega), rfl⟩)
                  exact pd_iret (v := (nI (gm_rn (U j42)))) X w ⟨by rw [hg], pd_kx.mono (us := [20, 71, 72]) (pd_kq.kx (k20) hy0) (by simp), fv 41, fv 42, (iv 43), (by rw [hg]; exact pd_MO.ext mo44 (fun j9 hj9 => by by_cases e9 : j9 = 42; subst e9; rfl; by_cases e8 : j9 = 41; subst e8; rfl; simp only [pd_fu, if_neg e9, if_neg e8]) (rfl))⟩ (by decide) (by decide) d_p15m39_270
              · -- not taken: 217
                exfalso
                omega
        · -- not taken: 130
          exfalso
          omega
      · -- not taken: 104
        refine lv_aload_n hx hb d_p15m39_104 rfl (lv_at hl 2 rfl) ?_
        refine lv_iconst (v := nI 1) hx hb d_p15m39_105 (by decide) ?_
        refine lv_iload_n hx hb d_p15m39_106 rfl (lv_at hl 1 rfl) ?_
        refine pd_cV (a := y) (As := [.int (nI 1), .int (nI j7)]) (rest := []) X w hy0 rfl (c_Mod_isBelow l G h (n := n) (R := R) (ad := ad) (fv := fv) (iv := iv) (tl := tl) hMO hC hK (by omega) (by omega)) ok_Mod_isBelow ⟨mT_1411, sT_40⟩ mT_1409 ⟨by decide, by decide⟩ rfl hl.1 rfl (Nat.le_of_ble_eq_true rfl) d_p15m39_107 ⟨by decide, by decide⟩ (fun r45 h46 H locs hp47 w => ?_)
        refine W.widen (k := 0) (n := 0) (by decide) (by decide) ?_
        obtain ⟨e48, k49, f50, f51, v52, f53⟩ := hp47
        have f54 := k49 _ _ ha1 (show (31 : Nat) ∉ [20, 71, 72] by decide)
        have f55 := k49 _ _ ha2 (show (32 : Nat) ∉ [20, 71, 72] by decide)
        have f56 := k49 _ _ ha11 (show (41 : Nat) ∉ [20, 71, 72] by decide)
        have f57 := k49 _ _ ha13 (show (43 : Nat) ∉ [20, 71, 72] by decide)
        have f58 := k49 _ _ ha14 (show (44 : Nat) ∉ [20, 71, 72] by decide)
        have f59 := k49 _ _ ha21 (show (51 : Nat) ∉ [20, 71, 72] by decide)
        have f60 := k49 _ _ ha25 (show (55 : Nat) ∉ [20, 71, 72] by decide)
        have f61 := k49 _ _ ha28 (show (58 : Nat) ∉ [20, 71, 72] by decide)
        have hy62 : h46 y = some (20, .inr (10, [.ref (ad 0), .ref (ad 1), .ref (ad 2), .int (iv 3), .int (iv 4), .int (iv 5), .ref (ad 6), .ref (ad 7), .ref (ad 8), .ref (ad 9), .ref (ad 10), .ref (ad 11), .int (iv 12), .ref (ad 13), .ref (ad 14), .ref (ad 15), .ref (ad 16), .ref (ad 17), .ref (ad 18), .ref (ad 19), .int (iv 20), .ref (ad 21), .ref (ad 22), .ref (ad 23), .ref (ad 24), .ref (ad 25), .ref (ad 26), .ref (ad 27), .ref (ad 28), .int (iv 29), .ref (ad 30), .ref (ad 31), .int (iv 32), .int (iv 33), .int (iv 34), .int (iv 35), .long tl, .int (iv 37), .int (iv 38), .int (iv 39), .int (iv 40), .ref (ad 41), .ref (ad 42), .int v52])) := f53.1
        have ha63 : h46 (ad 1) = some (31, .inl (.int, 40, .inl (fv 1))) := (f53.2.2 1 (by decide)).1
        have ha64 : h46 (ad 2) = some (32, .inl (.int, 40, .inl (fv 2))) := (f53.2.2 2 (by decide)).1
        have ha65 : h46 (ad 11) = some (41, .inl (.boolean, 14, .inl (fv 11))) := (f53.2.2 11 (by decide)).1
        have ha66 : h46 (ad 13) = some (43, .inl (.int, 24, .inl (fv 13))) := (f53.2.2 13 (by decide)).1
        have ha67 : h46 (ad 14) = some (44, .inl (.int, 24, .inl (fv 14))) := (f53.2.2 14 (by decide)).1
        have ha68 : h46 (ad 21) = some (51, .inl (.int, 24, .inl (fv 21))) := (f53.2.2 21 (by decide)).1
        have ha69 : h46 (ad 25) = some (55, .inl (.int, 24, .inl (fv 25))) := (f53.2.2 25 (by decide)).1
        have ha70 : h46 (ad 28) = some (58, .inl (.int, 24, .inl (fv 28))) := (f53.2.2 28 (by decide)).1
        have ha71 : h46 (ad 41) = some (71, .inl (.int, 16, .inl (f50))) := (f53.2.2 41 (by decide)).1
        have ha72 : h46 (ad 42) = some (72, .inl (.int, 32, .inl (f51))) := (f53.2.2 42 (by decide)).1
        refine pd_bne (tgt := 122) hx hb d_p15m39_110 (by decide) (fun q73 => ?_) (fun q73 => ?_)
        · -- taken: 122
          refine lv_bipush (v := -6) hx hb d_p15m39_122 (by decide) ?_
          have hg : gr_jc n R M u U cs (wt + 7) = (-6, 0) := by unfold gr_jc; rw [← hw1]; simp only [e5.symm]; rw [if_neg (fun h9 => by omega), if_pos ⟨by omega, (by rw [← gm_bel_eq hK hB (x := 1) (d := j7) (by omega) (by omega), ← e48, q73]; rfl)⟩]
          exact pd_iret (v := (-6)) X w ⟨by rw [hg], k49, f50, f51, v52, (by rw [hg]; exact pd_MO.ext f53 (fun j9 hj9 => by by_cases e9 : j9 = 42; subst e9; rfl; by_cases e8 : j9 = 41; subst e8; rfl; simp only [pd_fu, if_neg e9, if_neg e8]) (by show pd_mv ad (pd_fu (pd_fu iv 34 (nI dn)) 43 _) tl = _; rw [pd_fu_id (f := iv) (n := 34) hiv34] <;> rfl))⟩ (by decide) (by decide) d_p15m39_124
        · -- not taken: 113
          refine lv_aload_n hx hb d_p15m39_113 rfl (lv_at hl 2 rfl) ?_
          refine lv_iload_n hx hb d_p15m39_114 rfl (lv_at hl 1 rfl) ?_
          refine lv_iconst (v := nI 1) hx hb d_p15m39_115 (by decide) ?_
          refine pd_cV (a := y) (As := [.int (nI j7), .int (nI 1)]) (rest := []) X w hy62 rfl (c_Mod_isBelow l G h46 (n := n) (R := R) (ad := ad) (fv := pd_fu (pd_fu fv 41 f50) 42 f51) (iv := pd_fu iv 43 v52) (tl := tl) f53 hC hK (by omega) (by omega)) ok_Mod_isBelow ⟨mT_1411, sT_40⟩ mT_1409 ⟨by decide, by decide⟩ rfl hl.1 rfl (Nat.le_of_ble_eq_true rfl) d_p15m39_116 ⟨by decide, by decide⟩ (fun r74 h75 H locs hp76 w => ?_)
          refine W.widen (k := 0) (n := 0) (by decide) (by decide) ?_
          obtain ⟨e77, k78, f79, f80, v81, f82⟩ := hp76
          have f83 := k78 _ _ ha63 (show (31 : Nat) ∉ [20, 71, 72] by decide)
          have f84 := k78 _ _ ha64 (show (32 : Nat) ∉ [20, 71, 72] by decide)
          have f85 := k78 _ _ ha65 (show (41 : Nat) ∉ [20, 71, 72] by decide)
          have f86 := k78 _ _ ha66 (show (43 : Nat) ∉ [20, 71, 72] by decide)
          have f87 := k78 _ _ ha67 (show (44 : Nat) ∉ [20, 71, 72] by decide)
          have f88 := k78 _ _ ha68 (show (51 : Nat) ∉ [20, 71, 72] by decide)
          have f89 := k78 _ _ ha69 (show (55 : Nat) ∉ [20, 71, 72] by decide)
          have f90 := k78 _ _ ha70 (show (58 : Nat) ∉ [20, 71, 72] by decide)
          have mo91 : pd_MO G h75 y ad (pd_fu (pd_fu fv 41 f79) 42 f80) (pd_fu iv 43 v81) tl := pd_MO.ext f82 (fun j9 hj9 => by by_cases e941 : j9 = 41; subst e941; rfl; by_cases e942 : j9 = 42; subst e942; rfl; simp only [pd_fu, if_neg e941, if_neg e942]) rfl
          have hy92 : h75 y = some (20, .inr (10, [.ref (ad 0), .ref (ad 1), .ref (ad 2), .int (iv 3), .int (iv 4), .int (iv 5), .ref (ad 6), .ref (ad 7), .ref (ad 8), .ref (ad 9), .ref (ad 10), .ref (ad 11), .int (iv 12), .ref (ad 13), .ref (ad 14), .ref (ad 15), .ref (ad 16), .ref (ad 17), .ref (ad 18), .ref (ad 19), .int (iv 20), .ref (ad 21), .ref (ad 22), .ref (ad 23), .ref (ad 24), .ref (ad 25), .ref (ad 26), .ref (ad 27), .ref (ad 28), .int (iv 29), .ref (ad 30), .ref (ad 31), .int (iv 32), .int (iv 33), .int (iv 34), .int (iv 35), .long tl, .int (iv 37), .int (iv 38), .int (iv 39), .int (iv 40), .ref (ad 41), .ref (ad 42), .int v81])) := mo91.1
          have ha93 : h75 (ad 1) = some (31, .inl (.int, 40, .inl (fv 1))) := (mo91.2.2 1 (by decide)).1
          have ha94 : h75 (ad 2) = some (32, .inl (.int, 40, .inl (fv 2))) := (mo91.2.2 2 (by decide)).1
          have ha95 : h75 (ad 11) = some (41, .inl (.boolean, 14, .inl (fv 11))) := (mo91.2.2 11 (by decide)).1
          have ha96 : h75 (ad 13) = some (43, .inl (.int, 24, .inl (fv 13))) := (mo91.2.2 13 (by decide)).1
          have ha97 : h75 (ad 14) = some (44, .inl (.int, 24, .inl (fv 14))) := (mo91.2.2 14 (by decide)).1
          have ha98 : h75 (ad 21) = some (51, .inl (.int, 24, .inl (fv 21))) := (mo91.2.2 21 (by decide)).1
          have ha99 : h75 (ad 25) = some (55, .inl (.int, 24, .inl (fv 25))) := (mo91.2.2 25 (by decide)).1
          have ha100 : h75 (ad 28) = some (58, .inl (.int, 24, .inl (fv 28))) := (mo91.2.2 28 (by decide)).1
          have ha101 : h75 (ad 41) = some (71, .inl (.int, 16, .inl (f79))) := (mo91.2.2 41 (by decide)).1
          have ha102 : h75 (ad 42) = some (72, .inl (.int, 32, .inl (f80))) := (mo91.2.2 42 (by decide)).1
          refine pd_beq (tgt := 125) hx hb d_p15m39_119 (by decide) (fun q103 => ?_) (fun q103 => ?_)
          · -- taken: 125
            refine lv_iload_n hx hb d_p15m39_125 rfl (lv_at hl 3 rfl) ?_
            refine lv_iconst (v := nI 5) hx hb d_p15m39_126 (by decide) ?_
            refine pd_jne (tgt := 142) hx hb d_p15m39_127 (by decide) (by omega) (by omega) (fun q104 => ?_) (fun q104 => ?_)
            · -- taken: 142
              refine lv_iconst (v := -1) hx hb d_p15m39_142 (by decide) ?_
              refine lv_istore (lv' := [(5, .int (-1)), (4, .int (-1)), (3, .int (nI j7)), (0, .ref y), (1, .int (nI wt)), (2, .int (nI 0))]) hx hb d_p15m39_143 hl (by decide) rfl (fun ls hl => ?_)
              refine lv_iload hx hb d_p15m39_145 (lv_at hl 0 rfl) ?_
              refine lv_if_lt (tgt := 172) hx hb d_p15m39_147 (by decide) (fun _ => ?_) (fun q => absurd (by decide) q)
              refine lv_aload_n hx hb d_p15m39_172 rfl (lv_at hl 3 rfl) ?_
              refine lv_iconst (v := nI 0) hx hb d_p15m39_173 (by decide) ?_
              refine lv_iconst (v := nI 1) hx hb d_p15m39_174 (by decide) ?_
              refine lv_iload_n hx hb d_p15m39_175 rfl (lv_at hl 2 rfl) ?_
              refine lv_iload hx hb d_p15m39_176 (lv_at hl 1 rfl) ?_
              refine pd_cV (a := y) (As := [.int (nI 0), .int (nI 1), .int (nI j7), .int (-1)]) (rest := []) X w hy92 rfl (c_Mod_best l G h75 (n := n) (R := R) (k := k) (M := M) (u := u) (U := U) (w1 := 0) (w2 := 1) (c9 := j7) (o := none) (ad := ad) (fv := pd_fu (pd_fu fv 41 f79) 42 f80) (iv := pd_fu iv 43 v81) (tl := tl) mo91 hC hM hU (by omega) (by omega) (by omega) (fun t ht => by cases ht)) ok_Mod_best ⟨mT_1415, sT_41⟩ mT_1413 ⟨by decide, by decide⟩ rfl hl.1 rfl (Nat.le_of_ble_eq_true rfl) d_p15m39_178 ⟨by decide, by decide⟩ (fun r106 h107 H locs hp108 w => ?_)
              refine W.widen (k := 0) (n := 0) (by decide) (by decide) ?_
              obtain ⟨e109, rfl⟩ := hp108
              refine lv_istore (lv' := [(5, .int (pd_m r106)), (4, .int (-1)), (3, .int (nI j7)), (0, .ref y), (1, .int (nI wt)), (2, .int (nI 0))]) hx hb d_p15m39_181 hl (by decide) rfl (fun ls hl => ?_)
              refine lv_iload hx hb d_p15m39_183 (lv_at hl 0 rfl) ?_
              refine pd_mge (tgt := 191) hx hb d_p15m39_185 (by decide) (fun x hx => by have z := gr_bst_lt (e109.symm.trans hx); omega) (fun q110 => ?_) (fun j111 q110 => ?_)
              · -- none: 188
                rw [q110] at e109
                rw [q110] at hl
                have hl : lv_has ls 6 [(5, .int (-1)), (4, .int (-1)), (3, .int (nI j7)), (0, .ref y), (1, .int (nI wt)), (2, .int (nI 0))] := hl
                refine lv_bipush (v := -7) hx hb d_p15m39_188 (by decide) ?_
                have hwg : gr_wg R M u U j7 none = (-7, 0) := by unfold gr_wg; simp only [e109.symm]
                have hg : gr_jc n R M u U cs (wt + 7) = (-7, 0) := by unfold gr_jc; rw [← hw1]; simp only [e5.symm]; rw [if_neg (fun h9 => by omega), if_neg (fun h9 => by have h8 := h9.2; rw [← gm_bel_eq hK hB (x := 1) (d := j7) (by omega) (by omega), ← gm_bel_eq hK hB (x := j7) (d := 1) (by omega) (by omega), ← e48, ← e77, q73, q103] at h8; cases h8)]; exact hwg
                exact pd_iret (v := (-7)) X w ⟨by rw [hg], pd_kx.tr (k49) (k78), f79, f80, v81, (by rw [hg]; exact pd_MO.ext mo91 (fun j9 hj9 => by by_cases e9 : j9 = 42; subst e9; rfl; by_cases e8 : j9 = 41; subst e8; rfl; simp only [pd_fu, if_neg e9, if_neg e8]) (by show pd_mv ad (pd_fu (pd_fu iv 34 (nI dn)) 43 _) tl = _; rw [pd_fu_id (f := iv) (n := 34) hiv34] <;> rfl))⟩ (by decide) (by decide) d_p15m39_190
              · -- some: 191
                rw [q110] at e109
                rw [q110] at hl
                have hl : lv_has ls 6 [(5, .int (nI j111)), (4, .int (-1)), (3, .int (nI j7)), (0, .ref y), (1, .int (nI wt)), (2, .int (nI 0))] := hl
                have j111lt := gr_bst_lt e109.symm
                refine lv_aload_n hx hb d_p15m39_191 rfl (lv_at hl 3 rfl) ?_
                refine lv_dup hx hb d_p15m39_192 rfl ?_
                refine pd_get X w hy92 rfl 34 (by decide) mT_1173 rfl rfl d_p15m39_193 ?_
                refine pd_top (v' := .int (nI dn)) (congrArg Value.int hiv34) ?_
                refine lv_iconst (v := nI 1) hx hb d_p15m39_196 (by decide) ?_
                refine pd_iadd hx hb d_p15m39_197 ?_
                refine pd_put (ty := .int) X w hy92 hz_y rfl 34 (by decide) mT_1173 rfl rfl (by decide +kernel) rfl rfl (Nat.le_of_ble_eq_true rfl) d_p15m39_198 (fun H locs w => ?_)
                have w : pd_w G s H locs (pd_up h75 y (20, .inr (10, [.ref (ad 0), .ref (ad 1), .ref (ad 2), .int (iv 3), .int (iv 4), .int (iv 5), .ref (ad 6), .ref (ad 7), .ref (ad 8), .ref (ad 9), .ref (ad 10), .ref (ad 11), .int (iv 12), .ref (ad 13), .ref (ad 14), .ref (ad 15), .ref (ad 16), .ref (ad 17), .ref (ad 18), .ref (ad 19), .int (iv 20), .ref (ad 21), .ref (ad 22), .ref (ad 23), .ref (ad 24), .ref (ad 25), .ref (ad 26), .ref (ad 27), .ref (ad 28), .int (iv 29), .ref (ad 30), .ref (ad 31), .int (iv 32), .int (iv 33), .int (nI (dn + 1)), .int (iv 35), .long tl, .int (iv 37), .int (iv 38), .int (iv 39), .int (iv 40), .ref (ad 41), .ref (ad 42), .int v81]))) := w
                obtain ⟨h112, u115⟩ : ∃ z, z = pd_up h75 y (20, .inr (10, [.ref (ad 0), .ref (ad 1), .ref (ad 2), .int (iv 3), .int (iv 4), .int (iv 5), .ref (ad 6), .ref (ad 7), .ref (ad 8), .ref (ad 9), .ref (ad 10), .ref (ad 11), .int (iv 12), .ref (ad 13), .ref (ad 14), .ref (ad 15), .ref (ad 16), .ref (ad 17), .ref (ad 18), .ref (ad 19), .int (iv 20), .ref (ad 21), .ref (ad 22), .ref (ad 23), .ref (ad 24), .ref (ad 25), .ref (ad 26), .ref (ad 27), .ref (ad 28), .int (iv 29), .ref (ad 30), .ref (ad 31), .int (iv 32), .int (iv 33), .int (nI (dn + 1)), .int (iv 35), .long tl, .int (iv 37), .int (iv 38), .int (iv 39), .int (iv 40), .ref (ad 41), .ref (ad 42), .int v81])) := ⟨_, rfl⟩
                rw [← u115] at w
                have k113 : pd_kq y h75 h112 := by rw [u115]; exact pd_up_kq
                have f114 : h112 y = some (20, .inr (10, [.ref (ad 0), .ref (ad 1), .ref (ad 2), .int (iv 3), .int (iv 4), .int (iv 5), .ref (ad 6), .ref (ad 7), .ref (ad 8), .ref (ad 9), .ref (ad 10), .ref (ad 11), .int (iv 12), .ref (ad 13), .ref (ad 14), .ref (ad 15), .ref (ad 16), .ref (ad 17), .ref (ad 18), .ref (ad 19), .int (iv 20), .ref (ad 21), .ref (ad 22), .ref (ad 23), .ref (ad 24), .ref (ad 25), .ref (ad 26), .ref (ad 27), .ref (ad 28), .int (iv 29), .ref (ad 30), .ref (ad 31), .int (iv 32), .int (iv 33), .int (nI (dn + 1)), .int (iv 35), .long tl, .int (iv 37), .int (iv 38), .int (iv 39), .int (iv 40), .ref (ad 41), .ref (ad 42), .int v81])) := by rw [u115]; exact pd_up_s _ _ _
                have f116 := k113 _ _ (pd_ne ha93 hy92 (by simp)) ha93
                have f117 := k113 _ _ (pd_ne ha94 hy92 (by simp)) ha94
                have f118 := k113 _ _ (pd_ne ha95 hy92 (by simp)) ha95
                have f119 := k113 _ _ (pd_ne ha96 hy92 (by simp)) ha96
                have f120 := k113 _ _ (pd_ne ha97 hy92 (by simp)) ha97
                have f121 := k113 _ _ (pd_ne ha98 hy92 (by simp)) ha98
                have f122 := k113 _ _ (pd_ne ha99 hy92 (by simp)) ha99
                have f123 := k113 _ _ (pd_ne ha100 hy92 (by simp)) ha100
                have f124 := k113 _ _ (pd_ne ha101 hy92 (by simp)) ha101
                have f125 := k113 _ _ (pd_ne ha102 hy92 (by simp)) ha102
                refine lv_aload_n hx hb d_p15m39_201 rfl (lv_at hl 3 rfl) ?_
                refine pd_get X w f114 rfl 21 (by decide) mT_1160 rfl rfl d_p15m39_202 ?_
                refine lv_iload hx hb d_p15m39_205 (lv_at hl 0 rfl) ?_
                refine pd_iald X w f121 (by omega) (by omega) d_p15m39_207 ?_
                refine pd_top (v' := .int (nI ((U j111).1 - 4))) (congrArg Value.int (hUu j111 (by omega)).1) ?_
                have hv47 := (hUu j111 (by omega)).2.1
                refine lv_iconst (v := nI 1) hx hb d_p15m39_208 (by decide) ?_
                refine pd_jeq (tgt := 240) hx hb d_p15m39_209 (by decide) (by omega) (by omega) (fun q126 => ?_) (fun q126 => ?_)
                · -- taken: 240
                  refine lv_bipush (v := -7) hx hb d_p15m39_240 (by decide) ?_
                  have hwg : gr_wg R M u U j7 none = (-7, 1) := by unfold gr_wg; simp only [e109.symm]; rw [if_pos (Or.inl (by omega))]
                  have hg : gr_jc n R M u U cs (wt + 7) = (-7, 1) := by unfold gr_jc; rw [← hw1]; simp only [e5.symm]; rw [if_neg (fun h9 => by omega), if_neg (fun h9 => by have h8 := h9.2; rw [← gm_bel_eq hK hB (x := 1) (d := j7) (by omega) (by omega), ← gm_bel_eq hK hB (x := j7) (d := 1) (by omega) (by omega), ← e48, ← e77, q73, q103] at h8; cases h8)]; exact hwg
                  have mo127 : pd_MO G h112 y ad (pd_fu (pd_fu fv 41 f79) 42 f80) (pd_fu (pd_fu iv 43 v81) 34 (nI (dn + 1))) tl := pd_MO.of (ts := [20]) mo91 (pd_kq.kx (k113) hy92) f114 (fun j hj => Or.inr ⟨fun z => by first | (simp at z; done) | (simp at z; omega), rfl⟩)
                  exact pd_iret (v := (-7)) X w ⟨by rw [hg], pd_kx.tr (pd_kx.tr (k49) (k78)) (pd_kx.mono (us := [20, 71, 72]) (pd_kq.kx (k113) hy92) (by simp)), f79, f80, v81, (by rw [hg]; exact pd_MO.ext mo127 (fun j9 hj9 => by by_cases e9 : j9 = 42; subst e9; rfl; by_cases e8 : j9 = 41; subst e8; rfl; simp only [pd_fu, if_neg e9, if_neg e8]) (rfl))⟩ (by decide) (by decide) d_p15m39_242
                · -- not taken: 212
                  refine lv_iload_n hx hb d_p15m39_212 rfl (lv_at hl 4 rfl) ?_
                  refine lv_iconst (v := nI 5) hx hb d_p15m39_213 (by decide) ?_
                  refine pd_jne (tgt := 243) hx hb d_p15m39_214 (by decide) (by omega) (by omega) (fun q128 => ?_) (fun q128 => ?_)
                  · -- taken: 243
                    refine lv_aload_n hx hb d_p15m39_243 rfl (lv_at hl 3 rfl) ?_
                    refine lv_iconst (v := nI 2) hx hb d_p15m39_244 (by decide) ?_
                    refine lv_iconst (v := nI 2) hx hb d_p15m39_245 (by decide) ?_
                    refine lv_iload_n hx hb d_p15m39_246 rfl (lv_at hl 2 rfl) ?_
                    refine lv_iload hx hb d_p15m39_247 (lv_at hl 1 rfl) ?_
                    have mo129 : pd_MO G h112 y ad (pd_fu (pd_fu fv 41 f79) 42 f80) (pd_fu (pd_fu iv 43 v81) 34 (nI (dn + 1))) tl := pd_MO.of (ts := [20]) mo91 (pd_kq.kx (k113) hy92) f114 (fun j hj => Or.inr ⟨fun z => by first | (simp at z; done) | (simp at z; omega), rfl⟩)
                    refine pd_cV (a := y) (As := [.int (nI 2), .int (nI 2), .int (nI j7), .int (-1)]) (rest := []) X w f114 rfl (c_Mod_best l G h112 (n := n) (R := R) (k := k) (M := M) (u := u) (U := U) (w1 := 2) (w2 := 2) (c9 := j7) (o := none) (ad := ad) (fv := pd_fu (pd_fu fv 41 f79) 42 f80) (iv := pd_fu (pd_fu iv 43 v81) 34 (nI (dn + 1))) (tl := tl) mo129 hC hM hU (by omega) (by omega) (by omega) (fun t ht => by cases ht)) ok_Mod_best ⟨mT_1415, sT_41⟩ mT_1413 ⟨by decide, by decide⟩ rfl hl.1 rfl (Nat.le_of_ble_eq_true rfl) d_p15m39_249 ⟨by decide, by decide⟩ (fun r130 h131 H locs hp132 w => ?_)
                    refine W.widen (k := 0) (n := 0) (by decide) (by decide) ?_
                    obtain ⟨e133, rfl⟩ := hp132
                    refine lv_istore (lv' := [(5, .int (pd_m r130)), (4, .int (-1)), (3, .int (nI j7)), (0, .ref y), (1, .int (nI wt)), (2, .int (nI 0))]) hx hb d_p15m39_252 hl (by decide) rfl (fun ls hl => ?_)
                    refine lv_iload hx hb d_p15m39_254 (lv_at hl 0 rfl) ?_
                    refine pd_mge (tgt := 263) hx hb d_p15m39_256 (by decide) (fun x hx => by have z := gr_bst_lt (e133.symm.trans hx); omega) (fun q134 => ?_) (fun j135 q134 => ?_)
                    · -- none: 259
                      rw [q134] at e133
                      rw [q134] at hl
                      have hl : lv_has ls 6 [(5, .int (-1)), (4, .int (-1)), (3, .int (nI j7)), (0, .ref y), (1, .int (nI wt)), (2, .int (nI 0))] := hl
                      refine lv_iconst (v := nI 1) hx hb d_p15m39_259 (by decide) ?_
                      refine lv_goto (tgt := 270) hx hb d_p15m39_260 (by decide) ?_
                      have hwg : gr_wg R M u U j7 none = (nI 1, 1) := by unfold gr_wg; simp only [e109.symm]; rw [if_neg (fun h9 => h9.elim (fun y => by omega) (fun y => by cases y.1))]; simp only [e133.symm]
                      have hg : gr_jc n R M u U cs (wt + 7) = (nI 1, 1) := by unfold gr_jc; rw [← hw1]; simp only [e5.symm]; rw [if_neg (fun h9 => by omega), if_neg (fun h9 => by have h8 := h9.2; rw [← gm_bel_eq hK hB (x := 1) (d := j7) (by omega) (by omega), ← gm_bel_eq hK hB (x := j7) (d := 1) (by omega) (by omega), ← e48, ← e77, q73, q103] at h8; cases h8)]; exact hwg
                      have mo136 : pd_MO G h112 y ad (pd_fu (pd_fu fv 41 f79) 42 f80) (pd_fu (pd_fu iv 43 v81) 34 (nI (dn + 1))) tl := pd_MO.of (ts := [20]) mo91 (pd_kq.kx (k113) hy92) f114 (fun j hj => Or.inr ⟨fun z => by first | (simp at z; done) | (simp at z; omega), rfl⟩)
                      exact pd_iret (v := (nI 1)) X w ⟨by rw [hg], pd_kx.tr (pd_kx.tr (k49) (k78)) (pd_kx.mono (us := [20, 71, 72]) (pd_kq.kx (k113) hy92) (by simp)), f79, f80, v81, (by rw [hg]; exact pd_MO.ext mo136 (fun j9 hj9 => by by_cases e9 : j9 = 42; subst e9; rfl; by_cases e8 : j9 = 41; subst e8; rfl; simp only [pd_fu, if_neg e9, if_neg e8]) (rfl))⟩ (by decide) (by decide) d_p15m39_270
                    · -- some: 263
                      rw [q134] at e133
                      rw [q134] at hl
                      have hl : lv_has ls 6 [(5, .int (nI j135)), (4, .int (-1)), (3, .int (nI j7)), (0, .ref y), (1, .int (nI wt)), (2, .int (nI 0))] := hl
                      have j135lt := gr_bst_lt e133.symm
                      refine lv_aload_n hx hb d_p15m39_263 rfl (lv_at hl 3 rfl) ?_
                      refine pd_get X w f114 rfl 28 (by decide) mT_1167 rfl rfl d_p15m39_264 ?_
                      refine lv_iload hx hb d_p15m39_267 (lv_at hl 0 rfl) ?_
                      refine pd_iald X w f123 (by omega) (by omega) d_p15m39_269 ?_
                      refine pd_top (v' := .int (nI (gm_rn (U j135)))) (congrArg Value.int (hUu j135 (by omega)).2.2.2.2.2.2.2.2.2.1) ?_
                      have hrn := (hUu j135 (by omega)).2.2.2.2.2.2.2.2.2.2
                      have hwg : gr_wg R M u U j7 none = (nI (gm_rn (U j135)), 1) := by unfold gr_wg; simp only [e109.symm]; rw [if_neg (fun h9 => h9.elim (fun y => by omega) (fun y => by cases y.1))]; simp only [e133.symm]; rw [gm_rn_c hV j135lt (by have z9 := gr_bst_v e133.symm; omega)]
                      have hg : gr_jc n R M u U cs (wt + 7) = (nI (gm_rn (U j135)), 1) := by unfold gr_jc; rw [← hw1]; simp only [e5.symm]; rw [if_neg (fun h9 => by omega), if_neg (fun h9 => by have h8 := h9.2; rw [← gm_bel_eq hK hB (x := 1) (d := j7) (by omega) (by omega), ← gm_bel_eq hK hB (x := j7) (d := 1) (by omega) (by omega), ← e48, ← e77, q73, q103] at h8; cases h8)]; exact hwg
                      have mo137 : pd_MO G h112 y ad (pd_fu (pd_fu fv 41 f79) 42 f80) (pd_fu (pd_fu iv 43 v81) 34 (nI (dn + 1))) tl := pd_MO.of (ts := [20]) mo91 (pd_kq.kx (k113) hy92) f114 (fun j hj => Or.inr ⟨fun z => by first | (simp at z; done) | (simp at z; omega), rfl⟩)
                      exact pd_iret (v := (nI (gm_rn (U j135)))) X w ⟨by rw [hg], pd_kx.tr (pd_kx.tr (k49) (k78)) (pd_kx.mono (us := [20, 71, 72]) (pd_kq.kx (k113) hy92) (by simp)), f79, f80, v81, (by rw [hg]; exact pd_MO.ext mo137 (fun j9 hj9 => by by_cases e9 : j9 = 42; subst e9; rfl; by_cases e8 : j9 = 41; subst e8; rfl; simp only [pd_fu, if_neg e9, if_neg e8]) (rfl))⟩ (by decide) (by decide) d_p15m39_270
                  · -- not taken: 217
                    exfalso
                    omega
            · -- not taken: 130
              exfalso
              omega
          · -- not taken: 122
            refine lv_bipush (v := -6) hx hb d_p15m39_122 (by decide) ?_
            have hg : gr_jc n R M u U cs (wt + 7) = (-6, 0) := by unfold gr_jc; rw [← hw1]; simp only [e5.symm]; rw [if_neg (fun h9 => by omega), if_pos ⟨by omega, (by rw [← gm_bel_eq hK hB (x := 1) (d := j7) (by omega) (by omega), ← gm_bel_eq hK hB (x := j7) (d := 1) (by omega) (by omega), ← e48, ← e77, q103, Bool.or_true])⟩]
            exact pd_iret (v := (-6)) X w ⟨by rw [hg], pd_kx.tr (k49) (k78), f79, f80, v81, (by rw [hg]; exact pd_MO.ext mo91 (fun j9 hj9 => by by_cases e9 : j9 = 42; subst e9; rfl; by_cases e8 : j9 = 41; subst e8; rfl; simp only [pd_fu, if_neg e9, if_neg e8]) (by show pd_mv ad (pd_fu (pd_fu iv 34 (nI dn)) 43 _) tl = _; rw [pd_fu_id (f := iv) (n := 34) hiv34] <;> rfl))⟩ (by decide) (by decide) d_p15m39_124
    · -- not taken: 87
      refine lv_aload_n hx hb d_p15m39_87 rfl (lv_at hl 2 rfl) ?_
      refine pd_get X w hy0 rfl 11 (by decide) mT_1150 rfl rfl d_p15m39_88 ?_
      refine lv_iload_n hx hb d_p15m39_91 rfl (lv_at hl 1 rfl) ?_
      refine pd_zald X w ha11 (by omega) (by omega) d_p15m39_92 ?_
      refine pd_top (v' := .int (pd_b ((R j7).2.1))) (congrArg Value.int (hCc j7 (by omega)).2.2.2.2.2.1) ?_
      refine pd_beq (tgt := 99) hx hb d_p15m39_93 (by decide) (fun q138 => ?_) (fun q138 => ?_)
      · -- taken: 99
        refine lv_iload_n hx hb d_p15m39_99 rfl (lv_at hl 3 rfl) ?_
        refine lv_iconst (v := nI 3) hx hb d_p15m39_100 (by decide) ?_
        refine pd_jne (tgt := 125) hx hb d_p15m39_101 (by decide) (by omega) (by omega) (fun q139 => ?_) (fun q139 => ?_)
        · -- taken: 125
          refine lv_iload_n hx hb d_p15m39_125 rfl (lv_at hl 3 rfl) ?_
          refine lv_iconst (v := nI 5) hx hb d_p15m39_126 (by decide) ?_
          refine pd_jne (tgt := 142) hx hb d_p15m39_127 (by decide) (by omega) (by omega) (fun q140 => ?_) (fun q140 => ?_)
          · -- taken: 142
            refine lv_iconst (v := -1) hx hb d_p15m39_142 (by decide) ?_
            refine lv_istore (lv' := [(5, .int (-1)), (4, .int (-1)), (3, .int (nI j7)), (0, .ref y), (1, .int (nI wt)), (2, .int (nI 0))]) hx hb d_p15m39_143 hl (by decide) rfl (fun ls hl => ?_)
            refine lv_iload hx hb d_p15m39_145 (lv_at hl 0 rfl) ?_
            refine lv_if_lt (tgt := 172) hx hb d_p15m39_147 (by decide) (fun _ => ?_) (fun q => absurd (by decide) q)
            refine lv_aload_n hx hb d_p15m39_172 rfl (lv_at hl 3 rfl) ?_
            refine lv_iconst (v := nI 0) hx hb d_p15m39_173 (by decide) ?_
            refine lv_iconst (v := nI 1) hx hb d_p15m39_174 (by decide) ?_
            refine lv_iload_n hx hb d_p15m39_175 rfl (lv_at hl 2 rfl) ?_
            refine lv_iload hx hb d_p15m39_176 (lv_at hl 1 rfl) ?_
            refine pd_cV (a := y) (As := [.int (nI 0), .int (nI 1), .int (nI j7), .int (-1)]) (rest := []) X w hy0 rfl (c_Mod_best l G h (n := n) (R := R) (k := k) (M := M) (u := u) (U := U) (w1 := 0) (w2 := 1) (c9 := j7) (o := none) (ad := ad) (fv := fv) (iv := iv) (tl := tl) hMO hC hM hU (by omega) (by omega) (by omega) (fun t ht => by cases ht)) ok_Mod_best ⟨mT_1415, sT_41⟩ mT_1413 ⟨by decide, by decide⟩ rfl hl.1 rfl (Nat.le_of_ble_eq_true rfl) d_p15m39_178 ⟨by decide, by decide⟩ (fun r142 h143 H locs hp144 w => ?_)
            refine W.widen (k := 0) (n := 0) (by decide) (by decide) ?_
            obtain ⟨e145, rfl⟩ := hp144
            refine lv_istore (lv' := [(5, .int (pd_m r142)), (4, .int (-1)), (3, .int (nI j7)), (0, .ref y), (1, .int (nI wt)), (2, .int (nI 0))]) hx hb d_p15m39_181 hl (by decide) rfl (fun ls hl => ?_)
            refine lv_iload hx hb d_p15m39_183 (lv_at hl 0 rfl) ?_
            refine pd_mge (tgt := 191) hx hb d_p15m39_185 (by decide) (fun x hx => by have z := gr_bst_lt (e145.symm.trans hx); omega) (fun q146 => ?_) (fun j147 q146 => ?_)
            · -- none: 188
              rw [q146] at e145
              rw [q146] at hl
              have hl : lv_has ls 6 [(5, .int (-1)), (4, .int (-1)), (3, .int (nI j7)), (0, .ref y), (1, .int (nI wt)), (2, .int (nI 0))] := hl
              refine lv_bipush (v := -7) hx hb d_p15m39_188 (by decide) ?_
              have hwg : gr_wg R M u U j7 none = (-7, 0) := by unfold gr_wg; simp only [e145.symm]
              have hg : gr_jc n R M u U cs (wt + 7) = (-7, 0) := by unfold gr_jc; rw [← hw1]; simp only [e5.symm]; rw [if_neg (fun h9 => by rw [q138] at h9; cases h9.2), if_neg (fun h9 => by omega)]; exact hwg
              exact pd_iret (v := (-7)) X w ⟨by rw [hg], pd_kx.rf, fv 41, fv 42, (iv 43), (by rw [hg]; exact pd_MO.ext hMO (fun j9 hj9 => by by_cases e9 : j9 = 42; subst e9; rfl; by_cases e8 : j9 = 41; subst e8; rfl; simp only [pd_fu, if_neg e9, if_neg e8]) (by show pd_mv ad (pd_fu (pd_fu iv 34 (nI dn)) 43 _) tl = _; rw [pd_fu_id (f := iv) (n := 34) hiv34] <;> rfl))⟩ (by decide) (by decide) d_p15m39_190
            · -- some: 191
              rw [q146] at e145
              rw [q146] at hl
              have hl : lv_has ls 6 [(5, .int (nI j147)), (4, .int (-1)), (3, .int (nI j7)), (0, .ref y), (1, .int (nI wt)), (2, .int (nI 0))] := hl
              have j147lt := gr_bst_lt e145.symm
              refine lv_aload_n hx hb d_p15m39_191 rfl (lv_at hl 3 rfl) ?_
              refine lv_dup hx hb d_p15m39_192 rfl ?_
              refine pd_get X w hy0 rfl 34 (by decide) mT_1173 rfl rfl d_p15m39_193 ?_
              refine pd_top (v' := .int (nI dn)) (congrArg Value.int hiv34) ?_
              refine lv_iconst (v := nI 1) hx hb d_p15m39_196 (by decide) ?_
              refine pd_iadd hx hb d_p15m39_197 ?_
              refine pd_put (ty := .int) X w hy0 hz_y rfl 34 (by decide) mT_1173 rfl rfl (by decide +kernel) rfl rfl (Nat.le_of_ble_eq_true rfl) d_p15m39_198 (fun H locs w => ?_)
              have w : pd_w G s H locs (pd_up h y (20, .inr (10, [.ref (ad 0), .ref (ad 1), .ref (ad 2), .int (iv 3), .int (iv 4), .int (iv 5), .ref (ad 6), .ref (ad 7), .ref (ad 8), .ref (ad 9), .ref (ad 10), .ref (ad 11), .int (iv 12), .ref (ad 13), .ref (ad 14), .ref (ad 15), .ref (ad 16), .ref (ad 17), .ref (ad 18), .ref (ad 19), .int (iv 20), .ref (ad 21), .ref (ad 22), .ref (ad 23), .ref (ad 24), .ref (ad 25), .ref (ad 26), .ref (ad 27), .ref (ad 28), .int (iv 29), .ref (ad 30), .ref (ad 31), .int (iv 32), .int (iv 33), .int (nI (dn + 1)), .int (iv 35), .long tl, .int (iv 37), .int (iv 38), .int (iv 39), .int (iv 40), .ref (ad 41), .ref (ad 42), .int (iv 43)]))) := w
              obtain ⟨h148, u151⟩ : ∃ z, z = pd_up h y (20, .inr (10, [.ref (ad 0), .ref (ad 1), .ref (ad 2), .int (iv 3), .int (iv 4), .int (iv 5), .ref (ad 6), .ref (ad 7), .ref (ad 8), .ref (ad 9), .ref (ad 10), .ref (ad 11), .int (iv 12), .ref (ad 13), .ref (ad 14), .ref (ad 15), .ref (ad 16), .ref (ad 17), .ref (ad 18), .ref (ad 19), .int (iv 20), .ref (ad 21), .ref (ad 22), .ref (ad 23), .ref (ad 24), .ref (ad 25), .ref (ad 26), .ref (ad 27), .ref (ad 28), .int (iv 29), .ref (ad 30), .ref (ad 31), .int (iv 32), .int (iv 33), .int (nI (dn + 1)), .int (iv 35), .long tl, .int (iv 37), .int (iv 38), .int (iv 39), .int (iv 40), .ref (ad 41), .ref (ad 42), .int (iv 43)])) := ⟨_, rfl⟩
              rw [← u151] at w
              have k149 : pd_kq y h h148 := by rw [u151]; exact pd_up_kq
              have f150 : h148 y = some (20, .inr (10, [.ref (ad 0), .ref (ad 1), .ref (ad 2), .int (iv 3), .int (iv 4), .int (iv 5), .ref (ad 6), .ref (ad 7), .ref (ad 8), .ref (ad 9), .ref (ad 10), .ref (ad 11), .int (iv 12), .ref (ad 13), .ref (ad 14), .ref (ad 15), .ref (ad 16), .ref (ad 17), .ref (ad 18), .ref (ad 19), .int (iv 20), .ref (ad 21), .ref (ad 22), .ref (ad 23), .ref (ad 24), .ref (ad 25), .ref (ad 26), .ref (ad 27), .ref (ad 28), .int (iv 29), .ref (ad 30), .ref (ad 31), .int (iv 32), .int (iv 33), .int (nI (dn + 1)), .int (iv 35), .long tl, .int (iv 37), .int (iv 38), .int (iv 39), .int (iv 40), .ref (ad 41), .ref (ad 42), .int (iv 43)])) := by rw [u151]; exact pd_up_s _ _ _
              have f152 := k149 _ _ (pd_ne ha1 hy0 (by simp)) ha1
              have f153 := k149 _ _ (pd_ne ha2 hy0 (by simp)) ha2
              have f154 := k149 _ _ (pd_ne ha11 hy0 (by simp)) ha11
              have f155 := k149 _ _ (pd_ne ha13 hy0 (by simp)) ha13
              have f156 := k149 _ _ (pd_ne ha14 hy0 (by simp)) ha14
              have f157 := k149 _ _ (pd_ne ha21 hy0 (by simp)) ha21
              have f158 := k149 _ _ (pd_ne ha25 hy0 (by simp)) ha25
              have f159 := k149 _ _ (pd_ne ha28 hy0 (by simp)) ha28
              have f160 := k149 _ _ (pd_ne ha41 hy0 (by simp)) ha41
              have f161 := k149 _ _ (pd_ne ha42 hy0 (by simp)) ha42
              refine lv_aload_n hx hb d_p15m39_201 rfl (lv_at hl 3 rfl) ?_
              refine pd_get X w f150 rfl 21 (by decide) mT_1160 rfl rfl d_p15m39_202 ?_
              refine lv_iload hx hb d_p15m39_205 (lv_at hl 0 rfl) ?_
              refine pd_iald X w f157 (by omega) (by omega) d_p15m39_207 ?_
              refine pd_top (v' := .int (nI ((U j147).1 - 4))) (congrArg Value.int (hUu j147 (by omega)).1) ?_
              have hv47 := (hUu j147 (by omega)).2.1
              refine lv_iconst (v := nI 1) hx hb d_p15m39_208 (by decide) ?_
              refine pd_jeq (tgt := 240) hx hb d_p15m39_209 (by decide) (by omega) (by omega) (fun q162 => ?_) (fun q162 => ?_)
              · -- taken: 240
                refine lv_bipush (v := -7) hx hb d_p15m39_240 (by decide) ?_
                have hwg : gr_wg R M u U j7 none = (-7, 1) := by unfold gr_wg; simp only [e145.symm]; rw [if_pos (Or.inl (by omega))]
                have hg : gr_jc n R M u U cs (wt + 7) = (-7, 1) := by unfold gr_jc; rw [← hw1]; simp only [e5.symm]; rw [if_neg (fun h9 => by rw [q138] at h9; cases h9.2), if_neg (fun h9 => by omega)]; exact hwg
                have mo163 : pd_MO G h148 y ad fv (pd_fu iv 34 (nI (dn + 1))) tl := pd_MO.of (ts := [20]) hMO (pd_kq.kx (k149) hy0) f150 (fun j hj => Or.inr ⟨fun z => by first | (simp at z; done) | (simp at z; omega), rfl⟩)
                exact pd_iret (v := (-7)) X w ⟨by rw [hg], pd_kx.mono (us := [20, 71, 72]) (pd_kq.kx (k149) hy0) (by simp), fv 41, fv 42, (iv 43), (by rw [hg]; exact pd_MO.ext mo163 (fun j9 hj9 => by by_cases e9 : j9 = 42; subst e9; rfl; by_cases e8 : j9 = 41; subst e8; rfl; simp only [pd_fu, if_neg e9, if_neg e8]) (rfl))⟩ (by decide) (by decide) d_p15m39_242
              · -- not taken: 212
                refine lv_iload_n hx hb d_p15m39_212 rfl (lv_at hl 4 rfl) ?_
                refine lv_iconst (v := nI 5) hx hb d_p15m39_213 (by decide) ?_
                refine pd_jne (tgt := 243) hx hb d_p15m39_214 (by decide) (by omega) (by omega) (fun q164 => ?_) (fun q164 => ?_)
                · -- taken: 243
                  refine lv_aload_n hx hb d_p15m39_243 rfl (lv_at hl 3 rfl) ?_
                  refine lv_iconst (v := nI 2) hx hb d_p15m39_244 (by decide) ?_
                  refine lv_iconst (v := nI 2) hx hb d_p15m39_245 (by decide) ?_
                  refine lv_iload_n hx hb d_p15m39_246 rfl (lv_at hl 2 rfl) ?_
                  refine lv_iload hx hb d_p15m39_247 (lv_at hl 1 rfl) ?_
                  have mo165 : pd_MO G h148 y ad fv (pd_fu iv 34 (nI (dn + 1))) tl := pd_MO.of (ts := [20]) hMO (pd_kq.kx (k149) hy0) f150 (fun j hj => Or.inr ⟨fun z => by first | (simp at z; done) | (simp at z; omega), rfl⟩)
                  refine pd_cV (a := y) (As := [.int (nI 2), .int (nI 2), .int (nI j7), .int (-1)]) (rest := []) X w f150 rfl (c_Mod_best l G h148 (n := n) (R := R) (k := k) (M := M) (u := u) (U := U) (w1 := 2) (w2 := 2) (c9 := j7) (o := none) (ad := ad) (fv := fv) (iv := pd_fu iv 34 (nI (dn + 1))) (tl := tl) mo165 hC hM hU (by omega) (by omega) (by omega) (fun t ht => by cases ht)) ok_Mod_best ⟨mT_1415, sT_41⟩ mT_1413 ⟨by decide, by decide⟩ rfl hl.1 rfl (Nat.le_of_ble_eq_true rfl) d_p15m39_249 ⟨by decide, by decide⟩ (fun r166 h167 H locs hp168 w => ?_)
                  refine W.widen (k := 0) (n := 0) (by decide) (by decide) ?_
                  obtain ⟨e169, rfl⟩ := hp168
                  refine lv_istore (lv' := [(5, .int (pd_m r166)), (4, .int (-1)), (3, .int (nI j7)), (0, .ref y), (1, .int (nI wt)), (2, .int (nI 0))]) hx hb d_p15m39_252 hl (by decide) rfl (fun ls hl => ?_)
                  refine lv_iload hx hb d_p15m39_254 (lv_at hl 0 rfl) ?_
                  refine pd_mge (tgt := 263) hx hb d_p15m39_256 (by decide) (fun x hx => by have z := gr_bst_lt (e169.symm.trans hx); omega) (fun q170 => ?_) (fun j171 q170 => ?_)
                  · -- none: 259
                    rw [q170] at e169
                    rw [q170] at hl
                    have hl : lv_has ls 6 [(5, .int (-1)), (4, .int (-1)), (3, .int (nI j7)), (0, .ref y), (1, .int (nI wt)), (2, .int (nI 0))] := hl
                    refine lv_iconst (v := nI 1) hx hb d_p15m39_259 (by decide) ?_
                    refine lv_goto (tgt := 270) hx hb d_p15m39_260 (by decide) ?_
                    have hwg : gr_wg R M u U j7 none = (nI 1, 1) := by unfold gr_wg; simp only [e145.symm]; rw [if_neg (fun h9 => h9.elim (fun y => by omega) (fun y => by cases y.1))]; simp only [e169.symm]
                    have hg : gr_jc n R M u U cs (wt + 7) = (nI 1, 1) := by unfold gr_jc; rw [← hw1]; simp only [e5.symm]; rw [if_neg (fun h9 => by rw [q138] at h9; cases h9.2), if_neg (fun h9 => by omega)]; exact hwg
                    have mo172 : pd_MO G h148 y ad fv (pd_fu iv 34 (nI (dn + 1))) tl := pd_MO.of (ts := [20]) hMO (pd_kq.kx (k149) hy0) f150 (fun j hj => Or.inr ⟨fun z => by first | (simp at z; done) | (simp at z; omega), rfl⟩)
                    exact pd_iret (v := (nI 1)) X w ⟨by rw [hg], pd_kx.mono (us := [20, 71, 72]) (pd_kq.kx (k149) hy0) (by simp), fv 41, fv 42, (iv 43), (by rw [hg]; exact pd_MO.ext mo172 (fun j9 hj9 => by by_cases e9 : j9 = 42; subst e9; rfl; by_cases e8 : j9 = 41; subst e8; rfl; simp only [pd_fu, if_neg e9, if_neg e8]) (rfl))⟩ (by decide) (by decide) d_p15m39_270
                  · -- some: 263
                    rw [q170] at e169
                    rw [q170] at hl
                    have hl : lv_has ls 6 [(5, .int (nI j171)), (4, .int (-1)), (3, .int (nI j7)), (0, .ref y), (1, .int (nI wt)), (2, .int (nI 0))] := hl
                    have j171lt := gr_bst_lt e169.symm
                    refine lv_aload_n hx hb d_p15m39_263 rfl (lv_at hl 3 rfl) ?_
                    refine pd_get X w f150 rfl 28 (by decide) mT_1167 rfl rfl d_p15m39_264 ?_
                    refine lv_iload hx hb d_p15m39_267 (lv_at hl 0 rfl) ?_
                    refine pd_iald X w f159 (by omega) (by omega) d_p15m39_269 ?_
                    refine pd_top (v' := .int (nI (gm_rn (U j171)))) (congrArg Value.int (hUu j171 (by omega)).2.2.2.2.2.2.2.2.2.1) ?_
                    have hrn := (hUu j171 (by omega)).2.2.2.2.2.2.2.2.2.2
                    have hwg : gr_wg R M u U j7 none = (nI (gm_rn (U j171)), 1) := by unfold gr_wg; simp only [e145.symm]; rw [if_neg (fun h9 => h9.elim (fun y => by omega) (fun y => by cases y.1))]; simp only [e169.symm]; rw [gm_rn_c hV j171lt (by have z9 := gr_bst_v e169.symm; omega)]
                    have hg : gr_jc n R M u U cs (wt + 7) = (nI (gm_rn (U j171)), 1) := by unfold gr_jc; rw [← hw1]; simp only [e5.symm]; rw [if_neg (fun h9 => by rw [q138] at h9; cases h9.2), if_neg (fun h9 => by omega)]; exact hwg
                    have mo173 : pd_MO G h148 y ad fv (pd_fu iv 34 (nI (dn + 1))) tl := pd_MO.of (ts := [20]) hMO (pd_kq.kx (k149) hy0) f150 (fun j hj => Or.inr ⟨fun z => by first | (simp at z; done) | (simp at z; omega), rfl⟩)
                    exact pd_iret (v := (nI (gm_rn (U j171)))) X w ⟨by rw [hg], pd_kx.mono (us := [20, 71, 72]) (pd_kq.kx (k149) hy0) (by simp), fv 41, fv 42, (iv 43), (by rw [hg]; exact pd_MO.ext mo173 (fun j9 hj9 => by by_cases e9 : j9 = 42; subst e9; rfl; by_cases e8 : j9 = 41; subst e8; rfl; simp only [pd_fu, if_neg e9, if_neg e8]) (rfl))⟩ (by decide) (by decide) d_p15m39_270
                · -- not taken: 217
                  exfalso
                  omega
          · -- not taken: 130
            exfalso
            omega
        · -- not taken: 104
          refine lv_aload_n hx hb d_p15m39_104 rfl (lv_at hl 2 rfl) ?_
          refine lv_iconst (v := nI 1) hx hb d_p15m39_105 (by decide) ?_
          refine lv_iload_n hx hb d_p15m39_106 rfl (lv_at hl 1 rfl) ?_
          refine pd_cV (a := y) (As := [.int (nI 1), .int (nI j7)]) (rest := []) X w hy0 rfl (c_Mod_isBelow l G h (n := n) (R := R) (ad := ad) (fv := fv) (iv := iv) (tl := tl) hMO hC hK (by omega) (by omega)) ok_Mod_isBelow ⟨mT_1411, sT_40⟩ mT_1409 ⟨by decide, by decide⟩ rfl hl.1 rfl (Nat.le_of_ble_eq_true rfl) d_p15m39_107 ⟨by decide, by decide⟩ (fun r174 h175 H locs hp176 w => ?_)
          refine W.widen (k := 0) (n := 0) (by decide) (by decide) ?_
          obtain ⟨e177, k178, f179, f180, v181, f182⟩ := hp176
          have f183 := k178 _ _ ha1 (show (31 : Nat) ∉ [20, 71, 72] by decide)
          have f184 := k178 _ _ ha2 (show (32 : Nat) ∉ [20, 71, 72] by decide)
          have f185 := k178 _ _ ha11 (show (41 : Nat) ∉ [20, 71, 72] by decide)
          have f186 := k178 _ _ ha13 (show (43 : Nat) ∉ [20, 71, 72] by decide)
          have f187 := k178 _ _ ha14 (show (44 : Nat) ∉ [20, 71, 72] by decide)
          have f188 := k178 _ _ ha21 (show (51 : Nat) ∉ [20, 71, 72] by decide)
          have f189 := k178 _ _ ha25 (show (55 : Nat) ∉ [20, 71, 72] by decide)
          have f190 := k178 _ _ ha28 (show (58 : Nat) ∉ [20, 71, 72] by decide)
          have hy191 : h175 y = some (20, .inr (10, [.ref (ad 0), .ref (ad 1), .ref (ad 2), .int (iv 3), .int (iv 4), .int (iv 5), .ref (ad 6), .ref (ad 7), .ref (ad 8), .ref (ad 9), .ref (ad 10), .ref (ad 11), .int (iv 12), .ref (ad 13), .ref (ad 14), .ref (ad 15), .ref (ad 16), .ref (ad 17), .ref (ad 18), .ref (ad 19), .int (iv 20), .ref (ad 21), .ref (ad 22), .ref (ad 23), .ref (ad 24), .ref (ad 25), .ref (ad 26), .ref (ad 27), .ref (ad 28), .int (iv 29), .ref (ad 30), .ref (ad 31), .int (iv 32), .int (iv 33), .int (iv 34), .int (iv 35), .long tl, .int (iv 37), .int (iv 38), .int (iv 39), .int (iv 40), .ref (ad 41), .ref (ad 42), .int v181])) := f182.1
          have ha192 : h175 (ad 1) = some (31, .inl (.int, 40, .inl (fv 1))) := (f182.2.2 1 (by decide)).1
          have ha193 : h175 (ad 2) = some (32, .inl (.int, 40, .inl (fv 2))) := (f182.2.2 2 (by decide)).1
          have ha194 : h175 (ad 11) = some (41, .inl (.boolean, 14, .inl (fv 11))) := (f182.2.2 11 (by decide)).1
          have ha195 : h175 (ad 13) = some (43, .inl (.int, 24, .inl (fv 13))) := (f182.2.2 13 (by decide)).1
          have ha196 : h175 (ad 14) = some (44, .inl (.int, 24, .inl (fv 14))) := (f182.2.2 14 (by decide)).1
          have ha197 : h175 (ad 21) = some (51, .inl (.int, 24, .inl (fv 21))) := (f182.2.2 21 (by decide)).1
          have ha198 : h175 (ad 25) = some (55, .inl (.int, 24, .inl (fv 25))) := (f182.2.2 25 (by decide)).1
          have ha199 : h175 (ad 28) = some (58, .inl (.int, 24, .inl (fv 28))) := (f182.2.2 28 (by decide)).1
          have ha200 : h175 (ad 41) = some (71, .inl (.int, 16, .inl (f179))) := (f182.2.2 41 (by decide)).1
          have ha201 : h175 (ad 42) = some (72, .inl (.int, 32, .inl (f180))) := (f182.2.2 42 (by decide)).1
          refine pd_bne (tgt := 122) hx hb d_p15m39_110 (by decide) (fun q202 => ?_) (fun q202 => ?_)
          · -- taken: 122
            refine lv_bipush (v := -6) hx hb d_p15m39_122 (by decide) ?_
            have hg : gr_jc n R M u U cs (wt + 7) = (-6, 0) := by unfold gr_jc; rw [← hw1]; simp only [e5.symm]; rw [if_neg (fun h9 => by rw [q138] at h9; cases h9.2), if_pos ⟨by omega, (by rw [← gm_bel_eq hK hB (x := 1) (d := j7) (by omega) (by omega), ← e177, q202]; rfl)⟩]
            exact pd_iret (v := (-6)) X w ⟨by rw [hg], k178, f179, f180, v181, (by rw [hg]; exact pd_MO.ext f182 (fun j9 hj9 => by by_cases e9 : j9 = 42; subst e9; rfl; by_cases e8 : j9 = 41; subst e8; rfl; simp only [pd_fu, if_neg e9, if_neg e8]) (by show pd_mv ad (pd_fu (pd_fu iv 34 (nI dn)) 43 _) tl = _; rw [pd_fu_id (f := iv) (n := 34) hiv34] <;> rfl))⟩ (by decide) (by decide) d_p15m39_124
          · -- not taken: 113
            refine lv_aload_n hx hb d_p15m39_113 rfl (lv_at hl 2 rfl) ?_
            refine lv_iload_n hx hb d_p15m39_114 rfl (lv_at hl 1 rfl) ?_
            refine lv_iconst (v := nI 1) hx hb d_p15m39_115 (by decide) ?_
            refine pd_cV (a := y) (As := [.int (nI j7), .int (nI 1)]) (rest := []) X w hy191 rfl (c_Mod_isBelow l G h175 (n := n) (R := R) (ad := ad) (fv := pd_fu (pd_fu fv 41 f179) 42 f180) (iv := pd_fu iv 43 v181) (tl := tl) f182 hC hK (by omega) (by omega)) ok_Mod_isBelow ⟨mT_1411, sT_40⟩ mT_1409 ⟨by decide, by decide⟩ rfl hl.1 rfl (Nat.le_of_ble_eq_true rfl) d_p15m39_116 ⟨by decide, by decide⟩ (fun r203 h204 H locs hp205 w => ?_)
            refine W.widen (k := 0) (n := 0) (by decide) (by decide) ?_
            obtain ⟨e206, k207, f208, f209, v210, f211⟩ := hp205
            have f212 := k207 _ _ ha192 (show (31 : Nat) ∉ [20, 71, 72] by decide)
            have f213 := k207 _ _ ha193 (show (32 : Nat) ∉ [20, 71, 72] by decide)
            have f214 := k207 _ _ ha194 (show (41 : Nat) ∉ [20, 71, 72] by decide)
            have f215 := k207 _ _ ha195 (show (43 : Nat) ∉ [20, 71, 72] by decide)
            have f216 := k207 _ _ ha196 (show (44 : Nat) ∉ [20, 71, 72] by decide)
            have f217 := k207 _ _ ha197 (show (51 : Nat) ∉ [20, 71, 72] by decide)
            have f218 := k207 _ _ ha198 (show (55 : Nat) ∉ [20, 71, 72] by decide)
            have f219 := k207 _ _ ha199 (show (58 : Nat) ∉ [20, 71, 72] by decide)
            have mo220 : pd_MO G h204 y ad (pd_fu (pd_fu fv 41 f208) 42 f209) (pd_fu iv 43 v210) tl := pd_MO.ext f211 (fun j9 hj9 => by by_cases e941 : j9 = 41; subst e941; rfl; by_cases e942 : j9 = 42; subst e942; rfl; simp only [pd_fu, if_neg e941, if_neg e942]) rfl
            have hy221 : h204 y = some (20, .inr (10, [.ref (ad 0), .ref (ad 1), .ref (ad 2), .int (iv 3), .int (iv 4), .int (iv 5), .ref (ad 6), .ref (ad 7), .ref (ad 8), .ref (ad 9), .ref (ad 10), .ref (ad 11), .int (iv 12), .ref (ad 13), .ref (ad 14), .ref (ad 15), .ref (ad 16), .ref (ad 17), .ref (ad 18), .ref (ad 19), .int (iv 20), .ref (ad 21), .ref (ad 22), .ref (ad 23), .ref (ad 24), .ref (ad 25), .ref (ad 26), .ref (ad 27), .ref (ad 28), .int (iv 29), .ref (ad 30), .ref (ad 31), .int (iv 32), .int (iv 33), .int (iv 34), .int (iv 35), .long tl, .int (iv 37), .int (iv 38), .int (iv 39), .int (iv 40), .ref (ad 41), .ref (ad 42), .int v210])) := mo220.1
            have ha222 : h204 (ad 1) = some (31, .inl (.int, 40, .inl (fv 1))) := (mo220.2.2 1 (by decide)).1
            have ha223 : h204 (ad 2) = some (32, .inl (.int, 40, .inl (fv 2))) := (mo220.2.2 2 (by decide)).1
            have ha224 : h204 (ad 11) = some (41, .inl (.boolean, 14, .inl (fv 11))) := (mo220.2.2 11 (by decide)).1
            have ha225 : h204 (ad 13) = some (43, .inl (.int, 24, .inl (fv 13))) := (mo220.2.2 13 (by decide)).1
            have ha226 : h204 (ad 14) = some (44, .inl (.int, 24, .inl (fv 14))) := (mo220.2.2 14 (by decide)).1
            have ha227 : h204 (ad 21) = some (51, .inl (.int, 24, .inl (fv 21))) := (mo220.2.2 21 (by decide)).1
            have ha228 : h204 (ad 25) = some (55, .inl (.int, 24, .inl (fv 25))) := (mo220.2.2 25 (by decide)).1
            have ha229 : h204 (ad 28) = some (58, .inl (.int, 24, .inl (fv 28))) := (mo220.2.2 28 (by decide)).1
            have ha230 : h204 (ad 41) = some (71, .inl (.int, 16, .inl (f208))) := (mo220.2.2 41 (by decide)).1
            have ha231 : h204 (ad 42) = some (72, .inl (.int, 32, .inl (f209))) := (mo220.2.2 42 (by decide)).1
            refine pd_beq (tgt := 125) hx hb d_p15m39_119 (by decide) (fun q232 => ?_) (fun q232 => ?_)
            · -- taken: 125
              refine lv_iload_n hx hb d_p15m39_125 rfl (lv_at hl 3 rfl) ?_
              refine lv_iconst (v := nI 5) hx hb d_p15m39_126 (by decide) ?_
              refine pd_jne (tgt := 142) hx hb d_p15m39_127 (by decide) (by omega) (by omega) (fun q233 => ?_) (fun q233 => ?_)
              · -- taken: 142
                refine lv_iconst (v := -1) hx hb d_p15m39_142 (by decide) ?_
                refine lv_istore (lv' := [(5, .int (-1)), (4, .int (-1)), (3, .int (nI j7)), (0, .ref y), (1, .int (nI wt)), (2, .int (nI 0))]) hx hb d_p15m39_143 hl (by decide) rfl (fun ls hl => ?_)
                refine lv_iload hx hb d_p15m39_145 (lv_at hl 0 rfl) ?_
                refine lv_if_lt (tgt := 172) hx hb d_p15m39_147 (by decide) (fun _ => ?_) (fun q => absurd (by decide) q)
                refine lv_aload_n hx hb d_p15m39_172 rfl (lv_at hl 3 rfl) ?_
                refine lv_iconst (v := nI 0) hx hb d_p15m39_173 (by decide) ?_
                refine lv_iconst (v := nI 1) hx hb d_p15m39_174 (by decide) ?_
                refine lv_iload_n hx hb d_p15m39_175 rfl (lv_at hl 2 rfl) ?_
                refine lv_iload hx hb d_p15m39_176 (lv_at hl 1 rfl) ?_
                refine pd_cV (a := y) (As := [.int (nI 0), .int (nI 1), .int (nI j7), .int (-1)]) (rest := []) X w hy221 rfl (c_Mod_best l G h204 (n := n) (R := R) (k := k) (M := M) (u := u) (U := U) (w1 := 0) (w2 := 1) (c9 := j7) (o := none) (ad := ad) (fv := pd_fu (pd_fu fv 41 f208) 42 f209) (iv := pd_fu iv 43 v210) (tl := tl) mo220 hC hM hU (by omega) (by omega) (by omega) (fun t ht => by cases ht)) ok_Mod_best ⟨mT_1415, sT_41⟩ mT_1413 ⟨by decide, by decide⟩ rfl hl.1 rfl (Nat.le_of_ble_eq_true rfl) d_p15m39_178 ⟨by decide, by decide⟩ (fun r235 h236 H locs hp237 w => ?_)
                refine W.widen (k := 0) (n := 0) (by decide) (by decide) ?_
                obtain ⟨e238, rfl⟩ := hp237
                refine lv_istore (lv' := [(5, .int (pd_m r235)), (4, .int (-1)), (3, .int (nI j7)), (0, .ref y), (1, .int (nI wt)), (2, .int (nI 0))]) hx hb d_p15m39_181 hl (by decide) rfl (fun ls hl => ?_)
                refine lv_iload hx hb d_p15m39_183 (lv_at hl 0 rfl) ?_
                refine pd_mge (tgt := 191) hx hb d_p15m39_185 (by decide) (fun x hx => by have z := gr_bst_lt (e238.symm.trans hx); omega) (fun q239 => ?_) (fun j240 q239 => ?_)
                · -- none: 188
                  rw [q239] at e238
                  rw [q239] at hl
                  have hl : lv_has ls 6 [(5, .int (-1)), (4, .int (-1)), (3, .int (nI j7)), (0, .ref y), (1, .int (nI wt)), (2, .int (nI 0))] := hl
                  refine lv_bipush (v := -7) hx hb d_p15m39_188 (by decide) ?_
                  have hwg : gr_wg R M u U j7 none = (-7, 0) := by unfold gr_wg; simp only [e238.symm]
                  have hg : gr_jc n R M u U cs (wt + 7) = (-7, 0) := by unfold gr_jc; rw [← hw1]; simp only [e5.symm]; rw [if_neg (fun h9 => by rw [q138] at h9; cases h9.2), if_neg (fun h9 => by have h8 := h9.2; rw [← gm_bel_eq hK hB (x := 1) (d := j7) (by omega) (by omega), ← gm_bel_eq hK hB (x := j7) (d := 1) (by omega) (by omega), ← e177, ← e206, q202, q232] at h8; cases h8)]; exact hwg
                  exact pd_iret (v := (-7)) X w ⟨by rw [hg], pd_kx.tr (k178) (k207), f208, f209, v210, (by rw [hg]; exact pd_MO.ext mo220 (fun j9 hj9 => by by_cases e9 : j9 = 42; subst e9; rfl; by_cases e8 : j9 = 41; subst e8; rfl; simp only [pd_fu, if_neg e9, if_neg e8]) (by show pd_mv ad (pd_fu (pd_fu iv 34 (nI dn)) 43 _) tl = _; rw [pd_fu_id (f := iv) (n := 34) hiv34] <;> rfl))⟩ (by decide) (by decide) d_p15m39_190
                · -- some: 191
                  rw [q239] at e238
                  rw [q239] at hl
                  have hl : lv_has ls 6 [(5, .int (nI j240)), (4, .int (-1)), (3, .int (nI j7)), (0, .ref y), (1, .int (nI wt)), (2, .int (nI 0))] := hl
                  have j240lt := gr_bst_lt e238.symm
                  refine lv_aload_n hx hb d_p15m39_191 rfl (lv_at hl 3 rfl) ?_
                  refine lv_dup hx hb d_p15m39_192 rfl ?_
                  refine pd_get X w hy221 rfl 34 (by decide) mT_1173 rfl rfl d_p15m39_193 ?_
                  refine pd_top (v' := .int (nI dn)) (congrArg Value.int hiv34) ?_
                  refine lv_iconst (v := nI 1) hx hb d_p15m39_196 (by decide) ?_
                  refine pd_iadd hx hb d_p15m39_197 ?_
                  refine pd_put (ty := .int) X w hy221 hz_y rfl 34 (by decide) mT_1173 rfl rfl (by decide +kernel) rfl rfl (Nat.le_of_ble_eq_true rfl) d_p15m39_198 (fun H locs w => ?_)
                  have w : pd_w G s H locs (pd_up h204 y (20, .inr (10, [.ref (ad 0), .ref (ad 1), .ref (ad 2), .int (iv 3), .int (iv 4), .int (iv 5), .ref (ad 6), .ref (ad 7), .ref (ad 8), .ref (ad 9), .ref (ad 10), .ref (ad 11), .int (iv 12), .ref (ad 13), .ref (ad 14), .ref (ad 15), .ref (ad 16), .ref (ad 17), .ref (ad 18), .ref (ad 19), .int (iv 20), .ref (ad 21), .ref (ad 22), .ref (ad 23), .ref (ad 24), .ref (ad 25), .ref (ad 26), .ref (ad 27), .ref (ad 28), .int (iv 29), .ref (ad 30), .ref (ad 31), .int (iv 32), .int (iv 33), .int (nI (dn + 1)), .int (iv 35), .long tl, .int (iv 37), .int (iv 38), .int (iv 39), .int (iv 40), .ref (ad 41), .ref (ad 42), .int v210]))) := w
                  obtain ⟨h241, u244⟩ : ∃ z, z = pd_up h204 y (20, .inr (10, [.ref (ad 0), .ref (ad 1), .ref (ad 2), .int (iv 3), .int (iv 4), .int (iv 5), .ref (ad 6), .ref (ad 7), .ref (ad 8), .ref (ad 9), .ref (ad 10), .ref (ad 11), .int (iv 12), .ref (ad 13), .ref (ad 14), .ref (ad 15), .ref (ad 16), .ref (ad 17), .ref (ad 18), .ref (ad 19), .int (iv 20), .ref (ad 21), .ref (ad 22), .ref (ad 23), .ref (ad 24), .ref (ad 25), .ref (ad 26), .ref (ad 27), .ref (ad 28), .int (iv 29), .ref (ad 30), .ref (ad 31), .int (iv 32), .int (iv 33), .int (nI (dn + 1)), .int (iv 35), .long tl, .int (iv 37), .int (iv 38), .int (iv 39), .int (iv 40), .ref (ad 41), .ref (ad 42), .int v210])) := ⟨_, rfl⟩
                  rw [← u244] at w
                  have k242 : pd_kq y h204 h241 := by rw [u244]; exact pd_up_kq
                  have f243 : h241 y = some (20, .inr (10, [.ref (ad 0), .ref (ad 1), .ref (ad 2), .int (iv 3), .int (iv 4), .int (iv 5), .ref (ad 6), .ref (ad 7), .ref (ad 8), .ref (ad 9), .ref (ad 10), .ref (ad 11), .int (iv 12), .ref (ad 13), .ref (ad 14), .ref (ad 15), .ref (ad 16), .ref (ad 17), .ref (ad 18), .ref (ad 19), .int (iv 20), .ref (ad 21), .ref (ad 22), .ref (ad 23), .ref (ad 24), .ref (ad 25), .ref (ad 26), .ref (ad 27), .ref (ad 28), .int (iv 29), .ref (ad 30), .ref (ad 31), .int (iv 32), .int (iv 33), .int (nI (dn + 1)), .int (iv 35), .long tl, .int (iv 37), .int (iv 38), .int (iv 39), .int (iv 40), .ref (ad 41), .ref (ad 42), .int v210])) := by rw [u244]; exact pd_up_s _ _ _
                  have f245 := k242 _ _ (pd_ne ha222 hy221 (by simp)) ha222
                  have f246 := k242 _ _ (pd_ne ha223 hy221 (by simp)) ha223
                  have f247 := k242 _ _ (pd_ne ha224 hy221 (by simp)) ha224
                  have f248 := k242 _ _ (pd_ne ha225 hy221 (by simp)) ha225
                  have f249 := k242 _ _ (pd_ne ha226 hy221 (by simp)) ha226
                  have f250 := k242 _ _ (pd_ne ha227 hy221 (by simp)) ha227
                  have f251 := k242 _ _ (pd_ne ha228 hy221 (by simp)) ha228
                  have f252 := k242 _ _ (pd_ne ha229 hy221 (by simp)) ha229
                  have f253 := k242 _ _ (pd_ne ha230 hy221 (by simp)) ha230
                  have f254 := k242 _ _ (pd_ne ha231 hy221 (by simp)) ha231
                  refine lv_aload_n hx hb d_p15m39_201 rfl (lv_at hl 3 rfl) ?_
                  refine pd_get X w f243 rfl 21 (by decide) mT_1160 rfl rfl d_p15m39_202 ?_
                  refine lv_iload hx hb d_p15m39_205 (lv_at hl 0 rfl) ?_
                  refine pd_iald X w f250 (by omega) (by omega) d_p15m39_207 ?_
                  refine pd_top (v' := .int (nI ((U j240).1 - 4))) (congrArg Value.int (hUu j240 (by omega)).1) ?_
                  have hv47 := (hUu j240 (by omega)).2.1
                  refine lv_iconst (v := nI 1) hx hb d_p15m39_208 (by decide) ?_
                  refine pd_jeq (tgt := 240) hx hb d_p15m39_209 (by decide) (by omega) (by omega) (fun q255 => ?_) (fun q255 => ?_)
                  · -- taken: 240
                    refine lv_bipush (v := -7) hx hb d_p15m39_240 (by decide) ?_
                    have hwg : gr_wg R M u U j7 none = (-7, 1) := by unfold gr_wg; simp only [e238.symm]; rw [if_pos (Or.inl (by omega))]
                    have hg : gr_jc n R M u U cs (wt + 7) = (-7, 1) := by unfold gr_jc; rw [← hw1]; simp only [e5.symm]; rw [if_neg (fun h9 => by rw [q138] at h9; cases h9.2), if_neg (fun h9 => by have h8 := h9.2; rw [← gm_bel_eq hK hB (x := 1) (d := j7) (by omega) (by omega), ← gm_bel_eq hK hB (x := j7) (d := 1) (by omega) (by omega), ← e177, ← e206, q202, q232] at h8; cases h8)]; exact hwg
                    have mo256 : pd_MO G h241 y ad (pd_fu (pd_fu fv 41 f208) 42 f209) (pd_fu (pd_fu iv 43 v210) 34 (nI (dn + 1))) tl := pd_MO.of (ts := [20]) mo220 (pd_kq.kx (k242) hy221) f243 (fun j hj => Or.inr ⟨fun z => by first | (simp at z; done) | (simp at z; omega), rfl⟩)
                    exact pd_iret (v := (-7)) X w ⟨by rw [hg], pd_kx.tr (pd_kx.tr (k178) (k207)) (pd_kx.mono (us := [20, 71, 72]) (pd_kq.kx (k242) hy221) (by simp)), f208, f209, v210, (by rw [hg]; exact pd_MO.ext mo256 (fun j9 hj9 => by by_cases e9 : j9 = 42; subst e9; rfl; by_cases e8 : j9 = 41; subst e8; rfl; simp only [pd_fu, if_neg e9, if_neg e8]) (rfl))⟩ (by decide) (by decide) d_p15m39_242
                  · -- not taken: 212
                    refine lv_iload_n hx hb d_p15m39_212 rfl (lv_at hl 4 rfl) ?_
                    refine lv_iconst (v := nI 5) hx hb d_p15m39_213 (by decide) ?_
                    refine pd_jne (tgt := 243) hx hb d_p15m39_214 (by decide) (by omega) (by omega) (fun q257 => ?_) (fun q257 => ?_)
                    · -- taken: 243
                      refine lv_aload_n hx hb d_p15m39_243 rfl (lv_at hl 3 rfl) ?_
                      refine lv_iconst (v := nI 2) hx hb d_p15m39_244 (by decide) ?_
                      refine lv_iconst (v := nI 2) hx hb d_p15m39_245 (by decide) ?_
                      refine lv_iload_n hx hb d_p15m39_246 rfl (lv_at hl 2 rfl) ?_
                      refine lv_iload hx hb d_p15m39_247 (lv_at hl 1 rfl) ?_
                      have mo258 : pd_MO G h241 y ad (pd_fu (pd_fu fv 41 f208) 42 f209) (pd_fu (pd_fu iv 43 v210) 34 (nI (dn + 1))) tl := pd_MO.of (ts := [20]) mo220 (pd_kq.kx (k242) hy221) f243 (fun j hj => Or.inr ⟨fun z => by first | (simp at z; done) | (simp at z; omega), rfl⟩)
                      refine pd_cV (a := y) (As := [.int (nI 2), .int (nI 2), .int (nI j7), .int (-1)]) (rest := []) X w f243 rfl (c_Mod_best l G h241 (n := n) (R := R) (k := k) (M := M) (u := u) (U := U) (w1 := 2) (w2 := 2) (c9 := j7) (o := none) (ad := ad) (fv := pd_fu (pd_fu fv 41 f208) 42 f209) (iv := pd_fu (pd_fu iv 43 v210) 34 (nI (dn + 1))) (tl := tl) mo258 hC hM hU (by omega) (by omega) (by omega) (fun t ht => by cases ht)) ok_Mod_best ⟨mT_1415, sT_41⟩ mT_1413 ⟨by decide, by decide⟩ rfl hl.1 rfl (Nat.le_of_ble_eq_true rfl) d_p15m39_249 ⟨by decide, by decide⟩ (fun r259 h260 H locs hp261 w => ?_)
                      refine W.widen (k := 0) (n := 0) (by decide) (by decide) ?_
                      obtain ⟨e262, rfl⟩ := hp261
                      refine lv_istore (lv' := [(5, .int (pd_m r259)), (4, .int (-1)), (3, .int (nI j7)), (0, .ref y), (1, .int (nI wt)), (2, .int (nI 0))]) hx hb d_p15m39_252 hl (by decide) rfl (fun ls hl => ?_)
                      refine lv_iload hx hb d_p15m39_254 (lv_at hl 0 rfl) ?_
                      refine pd_mge (tgt := 263) hx hb d_p15m39_256 (by decide) (fun x hx => by have z := gr_bst_lt (e262.symm.trans hx); omega) (fun q263 => ?_) (fun j264 q263 => ?_)
                      · -- none: 259
                        rw [q263] at e262
                        rw [q263] at hl
                        have hl : lv_has ls 6 [(5, .int (-1)), (4, .int (-1)), (3, .int (nI j7)), (0, .ref y), (1, .int (nI wt)), (2, .int (nI 0))] := hl
                        refine lv_iconst (v := nI 1) hx hb d_p15m39_259 (by decide) ?_
                        refine lv_goto (tgt := 270) hx hb d_p15m39_260 (by decide) ?_
                        have hwg : gr_wg R M u U j7 none = (nI 1, 1) := by unfold gr_wg; simp only [e238.symm]; rw [if_neg (fun h9 => h9.elim (fun y => by omega) (fun y => by cases y.1))]; simp only [e262.symm]
                        have hg : gr_jc n R M u U cs (wt + 7) = (nI 1, 1) := by unfold gr_jc; rw [← hw1]; simp only [e5.symm]; rw [if_neg (fun h9 => by rw [q138] at h9; cases h9.2), if_neg (fun h9 => by have h8 := h9.2; rw [← gm_bel_eq hK hB (x := 1) (d := j7) (by omega) (by omega), ← gm_bel_eq hK hB (x := j7) (d := 1) (by omega) (by omega), ← e177, ← e206, q202, q232] at h8; cases h8)]; exact hwg
                        have mo265 : pd_MO G h241 y ad (pd_fu (pd_fu fv 41 f208) 42 f209) (pd_fu (pd_fu iv 43 v210) 34 (nI (dn + 1))) tl := pd_MO.of (ts := [20]) mo220 (pd_kq.kx (k242) hy221) f243 (fun j hj => Or.inr ⟨fun z => by first | (simp at z; done) | (simp at z; omega), rfl⟩)
                        exact pd_iret (v := (nI 1)) X w ⟨by rw [hg], pd_kx.tr (pd_kx.tr (k178) (k207)) (pd_kx.mono (us := [20, 71, 72]) (pd_kq.kx (k242) hy221) (by simp)), f208, f209, v210, (by rw [hg]; exact pd_MO.ext mo265 (fun j9 hj9 => by by_cases e9 : j9 = 42; subst e9; rfl; by_cases e8 : j9 = 41; subst e8; rfl; simp only [pd_fu, if_neg e9, if_neg e8]) (rfl))⟩ (by decide) (by decide) d_p15m39_270
                      · -- some: 263
                        rw [q263] at e262
                        rw [q263] at hl
                        have hl : lv_has ls 6 [(5, .int (nI j264)), (4, .int (-1)), (3, .int (nI j7)), (0, .ref y), (1, .int (nI wt)), (2, .int (nI 0))] := hl
                        have j264lt := gr_bst_lt e262.symm
                        refine lv_aload_n hx hb d_p15m39_263 rfl (lv_at hl 3 rfl) ?_
                        refine pd_get X w f243 rfl 28 (by decide) mT_1167 rfl rfl d_p15m39_264 ?_
                        refine lv_iload hx hb d_p15m39_267 (lv_at hl 0 rfl) ?_
                        refine pd_iald X w f252 (by omega) (by omega) d_p15m39_269 ?_
                        refine pd_top (v' := .int (nI (gm_rn (U j264)))) (congrArg Value.int (hUu j264 (by omega)).2.2.2.2.2.2.2.2.2.1) ?_
                        have hrn := (hUu j264 (by omega)).2.2.2.2.2.2.2.2.2.2
                        have hwg : gr_wg R M u U j7 none = (nI (gm_rn (U j264)), 1) := by unfold gr_wg; simp only [e238.symm]; rw [if_neg (fun h9 => h9.elim (fun y => by omega) (fun y => by cases y.1))]; simp only [e262.symm]; rw [gm_rn_c hV j264lt (by have z9 := gr_bst_v e262.symm; omega)]
                        have hg : gr_jc n R M u U cs (wt + 7) = (nI (gm_rn (U j264)), 1) := by unfold gr_jc; rw [← hw1]; simp only [e5.symm]; rw [if_neg (fun h9 => by rw [q138] at h9; cases h9.2), if_neg (fun h9 => by have h8 := h9.2; rw [← gm_bel_eq hK hB (x := 1) (d := j7) (by omega) (by omega), ← gm_bel_eq hK hB (x := j7) (d := 1) (by omega) (by omega), ← e177, ← e206, q202, q232] at h8; cases h8)]; exact hwg
                        have mo266 : pd_MO G h241 y ad (pd_fu (pd_fu fv 41 f208) 42 f209) (pd_fu (pd_fu iv 43 v210) 34 (nI (dn + 1))) tl := pd_MO.of (ts := [20]) mo220 (pd_kq.kx (k242) hy221) f243 (fun j hj => Or.inr ⟨fun z => by first | (simp at z; done) | (simp at z; omega), rfl⟩)
                        exact pd_iret (v := (nI (gm_rn (U j264)))) X w ⟨by rw [hg], pd_kx.tr (pd_kx.tr (k178) (k207)) (pd_kx.mono (us := [20, 71, 72]) (pd_kq.kx (k242) hy221) (by simp)), f208, f209, v210, (by rw [hg]; exact pd_MO.ext mo266 (fun j9 hj9 => by by_cases e9 : j9 = 42; subst e9; rfl; by_cases e8 : j9 = 41; subst e8; rfl; simp only [pd_fu, if_neg e9, if_neg e8]) (rfl))⟩ (by decide) (by decide) d_p15m39_270
                    · -- not taken: 217
                      exfalso
                      omega
              · -- not taken: 130
                exfalso
                omega
            · -- not taken: 122
              refine lv_bipush (v := -6) hx hb d_p15m39_122 (by decide) ?_
              have hg : gr_jc n R M u U cs (wt + 7) = (-6, 0) := by unfold gr_jc; rw [← hw1]; simp only [e5.symm]; rw [if_neg (fun h9 => by rw [q138] at h9; cases h9.2), if_pos ⟨by omega, (by rw [← gm_bel_eq hK hB (x := 1) (d := j7) (by omega) (by omega), ← gm_bel_eq hK hB (x := j7) (d := 1) (by omega) (by omega), ← e177, ← e206, q232, Bool.or_true])⟩]
              exact pd_iret (v := (-6)) X w ⟨by rw [hg], pd_kx.tr (k178) (k207), f208, f209, v210, (by rw [hg]; exact pd_MO.ext mo220 (fun j9 hj9 => by by_cases e9 : j9 = 42; subst e9; rfl; by_cases e8 : j9 = 41; subst e8; rfl; simp only [pd_fu, if_neg e9, if_neg e8]) (by show pd_mv ad (pd_fu (pd_fu iv 34 (nI dn)) 43 _) tl = _; rw [pd_fu_id (f := iv) (n := 34) hiv34] <;> rfl))⟩ (by decide) (by decide) d_p15m39_124
      · -- not taken: 96
        refine lv_bipush (v := -4) hx hb d_p15m39_96 (by decide) ?_
        have hg : gr_jc n R M u U cs (wt + 7) = (-4, 0) := by unfold gr_jc; rw [← hw1]; simp only [e5.symm]; rw [if_pos ⟨by omega, q138⟩]
        exact pd_iret (v := (-4)) X w ⟨by rw [hg], pd_kx.rf, fv 41, fv 42, (iv 43), (by rw [hg]; exact pd_MO.ext hMO (fun j9 hj9 => by by_cases e9 : j9 = 42; subst e9; rfl; by_cases e8 : j9 = 41; subst e8; rfl; simp only [pd_fu, if_neg e9, if_neg e8]) (by show pd_mv ad (pd_fu (pd_fu iv 34 (nI dn)) 43 _) tl = _; rw [pd_fu_id (f := iv) (n := 34) hiv34] <;> rfl))⟩ (by decide) (by decide) d_p15m39_98
