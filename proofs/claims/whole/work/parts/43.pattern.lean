/-- kind, the name's end, where it goes on -/
def gm_ph (cs : List Nat) (x to : Nat) : Option (Nat × Nat × Nat) := if x + 1 < to ∧ cs.getD x 0 = 42 ∧ cs.getD (x + 1) 0 = 42 then some (3, x, x + 2) else if gm_name cs x to = x then none else if gm_name cs x to + 1 < to ∧ cs.getD (gm_name cs x to) 0 = 47 ∧ cs.getD (gm_name cs x to + 1) 0 = 42 then (if gm_name cs x to + 2 < to ∧ cs.getD (gm_name cs x to + 2) 0 = 42 then some (2, gm_name cs x to, gm_name cs x to + 3) else some (1, gm_name cs x to, gm_name cs x to + 2)) else some (0, gm_name cs x to, gm_name cs x to)
def gm_pt (cs : List Nat) (k to : Nat) : Option (Nat × Nat) := if k = to then some (0, to) else if ¬ cs.getD k 0 = 46 ∨ k + 1 = to then none else if cs.getD (k + 1) 0 = 42 ∧ k + 2 = to then some (1, k + 1) else if gm_part cs (k + 1) to = to then some (2, k + 1) else none
def gm_pat (cs : List Nat) (x to : Nat) : Option (Nat × Nat × Nat × Nat) := match gm_ph cs x to with
  | none => none
  | some t => match gm_pt cs t.2.2 to with
    | none => none
    | some q => some (t.1, t.2.1, q.1, q.2)
theorem d_p15m16_0 : decode prog_15_method_16_code 0 = .ok (.aload_n 0, 1) := by decide +kernel
theorem d_p15m16_1 : decode prog_15_method_16_code 1 = .ok (.getfield 13, 3) := by decide +kernel
theorem d_p15m16_4 : decode prog_15_method_16_code 4 = .ok (.iload_n 1, 1) := by decide +kernel
theorem d_p15m16_5 : decode prog_15_method_16_code 5 = .ok (.iaload, 1) := by decide +kernel
theorem d_p15m16_6 : decode prog_15_method_16_code 6 = .ok (.istore_n 2, 1) := by decide +kernel
theorem d_p15m16_7 : decode prog_15_method_16_code 7 = .ok (.aload_n 0, 1) := by decide +kernel
theorem d_p15m16_8 : decode prog_15_method_16_code 8 = .ok (.getfield 16, 3) := by decide +kernel
theorem d_p15m16_11 : decode prog_15_method_16_code 11 = .ok (.iload_n 1, 1) := by decide +kernel
theorem d_p15m16_12 : decode prog_15_method_16_code 12 = .ok (.iaload, 1) := by decide +kernel
theorem d_p15m16_13 : decode prog_15_method_16_code 13 = .ok (.istore_n 3, 1) := by decide +kernel
theorem d_p15m16_14 : decode prog_15_method_16_code 14 = .ok (.aload_n 0, 1) := by decide +kernel
theorem d_p15m16_15 : decode prog_15_method_16_code 15 = .ok (.iload_n 2, 1) := by decide +kernel
theorem d_p15m16_16 : decode prog_15_method_16_code 16 = .ok (.putfield 130, 3) := by decide +kernel
theorem d_p15m16_19 : decode prog_15_method_16_code 19 = .ok (.aload_n 0, 1) := by decide +kernel
theorem d_p15m16_20 : decode prog_15_method_16_code 20 = .ok (.iconst 3, 1) := by decide +kernel
theorem d_p15m16_21 : decode prog_15_method_16_code 21 = .ok (.putfield 139, 3) := by decide +kernel
theorem d_p15m16_24 : decode prog_15_method_16_code 24 = .ok (.iload_n 2, 1) := by decide +kernel
theorem d_p15m16_25 : decode prog_15_method_16_code 25 = .ok (.iconst 1, 1) := by decide +kernel
theorem d_p15m16_26 : decode prog_15_method_16_code 26 = .ok (.iadd, 1) := by decide +kernel
theorem d_p15m16_27 : decode prog_15_method_16_code 27 = .ok (.iload_n 3, 1) := by decide +kernel
theorem d_p15m16_28 : decode prog_15_method_16_code 28 = .ok (.if_icmp .ge 33, 3) := by decide +kernel
theorem d_p15m16_31 : decode prog_15_method_16_code 31 = .ok (.aload_n 0, 1) := by decide +kernel
theorem d_p15m16_32 : decode prog_15_method_16_code 32 = .ok (.getfield 7, 3) := by decide +kernel
theorem d_p15m16_35 : decode prog_15_method_16_code 35 = .ok (.iload_n 2, 1) := by decide +kernel
theorem d_p15m16_36 : decode prog_15_method_16_code 36 = .ok (.iaload, 1) := by decide +kernel
theorem d_p15m16_37 : decode prog_15_method_16_code 37 = .ok (.bipush 42, 2) := by decide +kernel
theorem d_p15m16_39 : decode prog_15_method_16_code 39 = .ok (.if_icmp .ne 22, 3) := by decide +kernel
theorem d_p15m16_42 : decode prog_15_method_16_code 42 = .ok (.aload_n 0, 1) := by decide +kernel
theorem d_p15m16_43 : decode prog_15_method_16_code 43 = .ok (.getfield 7, 3) := by decide +kernel
theorem d_p15m16_46 : decode prog_15_method_16_code 46 = .ok (.iload_n 2, 1) := by decide +kernel
theorem d_p15m16_47 : decode prog_15_method_16_code 47 = .ok (.iconst 1, 1) := by decide +kernel
theorem d_p15m16_48 : decode prog_15_method_16_code 48 = .ok (.iadd, 1) := by decide +kernel
theorem d_p15m16_49 : decode prog_15_method_16_code 49 = .ok (.iaload, 1) := by decide +kernel
theorem d_p15m16_50 : decode prog_15_method_16_code 50 = .ok (.bipush 42, 2) := by decide +kernel
theorem d_p15m16_52 : decode prog_15_method_16_code 52 = .ok (.if_icmp .ne 9, 3) := by decide +kernel
theorem d_p15m16_55 : decode prog_15_method_16_code 55 = .ok (.iinc 2 2, 3) := by decide +kernel
theorem d_p15m16_58 : decode prog_15_method_16_code 58 = .ok (.goto 101, 3) := by decide +kernel
theorem d_p15m16_61 : decode prog_15_method_16_code 61 = .ok (.aload_n 0, 1) := by decide +kernel
theorem d_p15m16_62 : decode prog_15_method_16_code 62 = .ok (.iload_n 2, 1) := by decide +kernel
theorem d_p15m16_63 : decode prog_15_method_16_code 63 = .ok (.iload_n 3, 1) := by decide +kernel
theorem d_p15m16_64 : decode prog_15_method_16_code 64 = .ok (.invokevirtual 127, 3) := by decide +kernel
theorem d_p15m16_67 : decode prog_15_method_16_code 67 = .ok (.istore_n 2, 1) := by decide +kernel
theorem d_p15m16_68 : decode prog_15_method_16_code 68 = .ok (.iload_n 2, 1) := by decide +kernel
theorem d_p15m16_69 : decode prog_15_method_16_code 69 = .ok (.aload_n 0, 1) := by decide +kernel
theorem d_p15m16_70 : decode prog_15_method_16_code 70 = .ok (.getfield 13, 3) := by decide +kernel
theorem d_p15m16_73 : decode prog_15_method_16_code 73 = .ok (.iload_n 1, 1) := by decide +kernel
theorem d_p15m16_74 : decode prog_15_method_16_code 74 = .ok (.iaload, 1) := by decide +kernel
theorem d_p15m16_75 : decode prog_15_method_16_code 75 = .ok (.if_icmp .ne 5, 3) := by decide +kernel
theorem d_p15m16_78 : decode prog_15_method_16_code 78 = .ok (.iconst 0, 1) := by decide +kernel
theorem d_p15m16_79 : decode prog_15_method_16_code 79 = .ok (.ireturn, 1) := by decide +kernel
theorem d_p15m16_80 : decode prog_15_method_16_code 80 = .ok (.aload_n 0, 1) := by decide +kernel
theorem d_p15m16_81 : decode prog_15_method_16_code 81 = .ok (.iload_n 2, 1) := by decide +kernel
theorem d_p15m16_82 : decode prog_15_method_16_code 82 = .ok (.putfield 130, 3) := by decide +kernel
theorem d_p15m16_85 : decode prog_15_method_16_code 85 = .ok (.aload_n 0, 1) := by decide +kernel
theorem d_p15m16_86 : decode prog_15_method_16_code 86 = .ok (.iconst 0, 1) := by decide +kernel
theorem d_p15m16_87 : decode prog_15_method_16_code 87 = .ok (.putfield 139, 3) := by decide +kernel
theorem d_p15m16_90 : decode prog_15_method_16_code 90 = .ok (.iload_n 2, 1) := by decide +kernel
theorem d_p15m16_91 : decode prog_15_method_16_code 91 = .ok (.iconst 1, 1) := by decide +kernel
theorem d_p15m16_92 : decode prog_15_method_16_code 92 = .ok (.iadd, 1) := by decide +kernel
theorem d_p15m16_93 : decode prog_15_method_16_code 93 = .ok (.iload_n 3, 1) := by decide +kernel
theorem d_p15m16_94 : decode prog_15_method_16_code 94 = .ok (.if_icmp .ge 65, 3) := by decide +kernel
theorem d_p15m16_97 : decode prog_15_method_16_code 97 = .ok (.aload_n 0, 1) := by decide +kernel
theorem d_p15m16_98 : decode prog_15_method_16_code 98 = .ok (.getfield 7, 3) := by decide +kernel
theorem d_p15m16_101 : decode prog_15_method_16_code 101 = .ok (.iload_n 2, 1) := by decide +kernel
theorem d_p15m16_102 : decode prog_15_method_16_code 102 = .ok (.iaload, 1) := by decide +kernel
theorem d_p15m16_103 : decode prog_15_method_16_code 103 = .ok (.bipush 47, 2) := by decide +kernel
theorem d_p15m16_105 : decode prog_15_method_16_code 105 = .ok (.if_icmp .ne 54, 3) := by decide +kernel
theorem d_p15m16_108 : decode prog_15_method_16_code 108 = .ok (.aload_n 0, 1) := by decide +kernel
theorem d_p15m16_109 : decode prog_15_method_16_code 109 = .ok (.getfield 7, 3) := by decide +kernel
theorem d_p15m16_112 : decode prog_15_method_16_code 112 = .ok (.iload_n 2, 1) := by decide +kernel
theorem d_p15m16_113 : decode prog_15_method_16_code 113 = .ok (.iconst 1, 1) := by decide +kernel
theorem d_p15m16_114 : decode prog_15_method_16_code 114 = .ok (.iadd, 1) := by decide +kernel
theorem d_p15m16_115 : decode prog_15_method_16_code 115 = .ok (.iaload, 1) := by decide +kernel
theorem d_p15m16_116 : decode prog_15_method_16_code 116 = .ok (.bipush 42, 2) := by decide +kernel
theorem d_p15m16_118 : decode prog_15_method_16_code 118 = .ok (.if_icmp .ne 41, 3) := by decide +kernel
theorem d_p15m16_121 : decode prog_15_method_16_code 121 = .ok (.aload_n 0, 1) := by decide +kernel
theorem d_p15m16_122 : decode prog_15_method_16_code 122 = .ok (.iload_n 2, 1) := by decide +kernel
theorem d_p15m16_123 : decode prog_15_method_16_code 123 = .ok (.iconst 2, 1) := by decide +kernel
theorem d_p15m16_124 : decode prog_15_method_16_code 124 = .ok (.iadd, 1) := by decide +kernel
theorem d_p15m16_125 : decode prog_15_method_16_code 125 = .ok (.iload_n 3, 1) := by decide +kernel
theorem d_p15m16_126 : decode prog_15_method_16_code 126 = .ok (.if_icmp .ge 20, 3) := by decide +kernel
theorem d_p15m16_129 : decode prog_15_method_16_code 129 = .ok (.aload_n 0, 1) := by decide +kernel
theorem d_p15m16_130 : decode prog_15_method_16_code 130 = .ok (.getfield 7, 3) := by decide +kernel
theorem d_p15m16_133 : decode prog_15_method_16_code 133 = .ok (.iload_n 2, 1) := by decide +kernel
theorem d_p15m16_134 : decode prog_15_method_16_code 134 = .ok (.iconst 2, 1) := by decide +kernel
theorem d_p15m16_135 : decode prog_15_method_16_code 135 = .ok (.iadd, 1) := by decide +kernel
theorem d_p15m16_136 : decode prog_15_method_16_code 136 = .ok (.iaload, 1) := by decide +kernel
theorem d_p15m16_137 : decode prog_15_method_16_code 137 = .ok (.bipush 42, 2) := by decide +kernel
theorem d_p15m16_139 : decode prog_15_method_16_code 139 = .ok (.if_icmp .ne 7, 3) := by decide +kernel
theorem d_p15m16_142 : decode prog_15_method_16_code 142 = .ok (.iconst 2, 1) := by decide +kernel
theorem d_p15m16_143 : decode prog_15_method_16_code 143 = .ok (.goto 4, 3) := by decide +kernel
theorem d_p15m16_146 : decode prog_15_method_16_code 146 = .ok (.iconst 1, 1) := by decide +kernel
theorem d_p15m16_147 : decode prog_15_method_16_code 147 = .ok (.putfield 139, 3) := by decide +kernel
theorem d_p15m16_150 : decode prog_15_method_16_code 150 = .ok (.iload_n 2, 1) := by decide +kernel
theorem d_p15m16_151 : decode prog_15_method_16_code 151 = .ok (.iconst 1, 1) := by decide +kernel
theorem d_p15m16_152 : decode prog_15_method_16_code 152 = .ok (.aload_n 0, 1) := by decide +kernel
theorem d_p15m16_153 : decode prog_15_method_16_code 153 = .ok (.getfield 139, 3) := by decide +kernel
theorem d_p15m16_156 : decode prog_15_method_16_code 156 = .ok (.iadd, 1) := by decide +kernel
theorem d_p15m16_157 : decode prog_15_method_16_code 157 = .ok (.iadd, 1) := by decide +kernel
theorem d_p15m16_158 : decode prog_15_method_16_code 158 = .ok (.istore_n 2, 1) := by decide +kernel
theorem d_p15m16_159 : decode prog_15_method_16_code 159 = .ok (.aload_n 0, 1) := by decide +kernel
theorem d_p15m16_160 : decode prog_15_method_16_code 160 = .ok (.iconst 0, 1) := by decide +kernel
theorem d_p15m16_161 : decode prog_15_method_16_code 161 = .ok (.putfield 142, 3) := by decide +kernel
theorem d_p15m16_164 : decode prog_15_method_16_code 164 = .ok (.aload_n 0, 1) := by decide +kernel
theorem d_p15m16_165 : decode prog_15_method_16_code 165 = .ok (.iload_n 3, 1) := by decide +kernel
theorem d_p15m16_166 : decode prog_15_method_16_code 166 = .ok (.putfield 133, 3) := by decide +kernel
theorem d_p15m16_169 : decode prog_15_method_16_code 169 = .ok (.iload_n 2, 1) := by decide +kernel
theorem d_p15m16_170 : decode prog_15_method_16_code 170 = .ok (.iload_n 3, 1) := by decide +kernel
theorem d_p15m16_171 : decode prog_15_method_16_code 171 = .ok (.if_icmp .ne 5, 3) := by decide +kernel
theorem d_p15m16_174 : decode prog_15_method_16_code 174 = .ok (.iconst 1, 1) := by decide +kernel
theorem d_p15m16_175 : decode prog_15_method_16_code 175 = .ok (.ireturn, 1) := by decide +kernel
theorem d_p15m16_176 : decode prog_15_method_16_code 176 = .ok (.aload_n 0, 1) := by decide +kernel
theorem d_p15m16_177 : decode prog_15_method_16_code 177 = .ok (.getfield 7, 3) := by decide +kernel
theorem d_p15m16_180 : decode prog_15_method_16_code 180 = .ok (.iload_n 2, 1) := by decide +kernel
theorem d_p15m16_181 : decode prog_15_method_16_code 181 = .ok (.iaload, 1) := by decide +kernel
theorem d_p15m16_182 : decode prog_15_method_16_code 182 = .ok (.bipush 46, 2) := by decide +kernel
theorem d_p15m16_184 : decode prog_15_method_16_code 184 = .ok (.if_icmp .ne 10, 3) := by decide +kernel
theorem d_p15m16_187 : decode prog_15_method_16_code 187 = .ok (.iload_n 2, 1) := by decide +kernel
theorem d_p15m16_188 : decode prog_15_method_16_code 188 = .ok (.iconst 1, 1) := by decide +kernel
theorem d_p15m16_189 : decode prog_15_method_16_code 189 = .ok (.iadd, 1) := by decide +kernel
theorem d_p15m16_190 : decode prog_15_method_16_code 190 = .ok (.iload_n 3, 1) := by decide +kernel
theorem d_p15m16_191 : decode prog_15_method_16_code 191 = .ok (.if_icmp .ne 5, 3) := by decide +kernel
theorem d_p15m16_194 : decode prog_15_method_16_code 194 = .ok (.iconst 0, 1) := by decide +kernel
theorem d_p15m16_195 : decode prog_15_method_16_code 195 = .ok (.ireturn, 1) := by decide +kernel
theorem d_p15m16_196 : decode prog_15_method_16_code 196 = .ok (.aload_n 0, 1) := by decide +kernel
theorem d_p15m16_197 : decode prog_15_method_16_code 197 = .ok (.aload_n 0, 1) := by decide +kernel
theorem d_p15m16_198 : decode prog_15_method_16_code 198 = .ok (.getfield 7, 3) := by decide +kernel
theorem d_p15m16_201 : decode prog_15_method_16_code 201 = .ok (.iload_n 2, 1) := by decide +kernel
theorem d_p15m16_202 : decode prog_15_method_16_code 202 = .ok (.iconst 1, 1) := by decide +kernel
theorem d_p15m16_203 : decode prog_15_method_16_code 203 = .ok (.iadd, 1) := by decide +kernel
theorem d_p15m16_204 : decode prog_15_method_16_code 204 = .ok (.iaload, 1) := by decide +kernel
theorem d_p15m16_205 : decode prog_15_method_16_code 205 = .ok (.bipush 42, 2) := by decide +kernel
theorem d_p15m16_207 : decode prog_15_method_16_code 207 = .ok (.if_icmp .ne 14, 3) := by decide +kernel
theorem d_p15m16_210 : decode prog_15_method_16_code 210 = .ok (.iload_n 2, 1) := by decide +kernel
theorem d_p15m16_211 : decode prog_15_method_16_code 211 = .ok (.iconst 2, 1) := by decide +kernel
theorem d_p15m16_212 : decode prog_15_method_16_code 212 = .ok (.iadd, 1) := by decide +kernel
theorem d_p15m16_213 : decode prog_15_method_16_code 213 = .ok (.iload_n 3, 1) := by decide +kernel
theorem d_p15m16_214 : decode prog_15_method_16_code 214 = .ok (.if_icmp .ne 7, 3) := by decide +kernel
theorem d_p15m16_217 : decode prog_15_method_16_code 217 = .ok (.iconst 1, 1) := by decide +kernel
theorem d_p15m16_218 : decode prog_15_method_16_code 218 = .ok (.goto 4, 3) := by decide +kernel
theorem d_p15m16_221 : decode prog_15_method_16_code 221 = .ok (.iconst 2, 1) := by decide +kernel
theorem d_p15m16_222 : decode prog_15_method_16_code 222 = .ok (.putfield 142, 3) := by decide +kernel
theorem d_p15m16_225 : decode prog_15_method_16_code 225 = .ok (.aload_n 0, 1) := by decide +kernel
theorem d_p15m16_226 : decode prog_15_method_16_code 226 = .ok (.iload_n 2, 1) := by decide +kernel
theorem d_p15m16_227 : decode prog_15_method_16_code 227 = .ok (.iconst 1, 1) := by decide +kernel
theorem d_p15m16_228 : decode prog_15_method_16_code 228 = .ok (.iadd, 1) := by decide +kernel
theorem d_p15m16_229 : decode prog_15_method_16_code 229 = .ok (.putfield 133, 3) := by decide +kernel
theorem d_p15m16_232 : decode prog_15_method_16_code 232 = .ok (.aload_n 0, 1) := by decide +kernel
theorem d_p15m16_233 : decode prog_15_method_16_code 233 = .ok (.getfield 142, 3) := by decide +kernel
theorem d_p15m16_236 : decode prog_15_method_16_code 236 = .ok (.iconst 1, 1) := by decide +kernel
theorem d_p15m16_237 : decode prog_15_method_16_code 237 = .ok (.if_icmp .eq 15, 3) := by decide +kernel
theorem d_p15m16_240 : decode prog_15_method_16_code 240 = .ok (.aload_n 0, 1) := by decide +kernel
theorem d_p15m16_241 : decode prog_15_method_16_code 241 = .ok (.iload_n 2, 1) := by decide +kernel
theorem d_p15m16_242 : decode prog_15_method_16_code 242 = .ok (.iconst 1, 1) := by decide +kernel
theorem d_p15m16_243 : decode prog_15_method_16_code 243 = .ok (.iadd, 1) := by decide +kernel
theorem d_p15m16_244 : decode prog_15_method_16_code 244 = .ok (.iload_n 3, 1) := by decide +kernel
theorem d_p15m16_245 : decode prog_15_method_16_code 245 = .ok (.invokevirtual 123, 3) := by decide +kernel
theorem d_p15m16_248 : decode prog_15_method_16_code 248 = .ok (.iload_n 3, 1) := by decide +kernel
theorem d_p15m16_249 : decode prog_15_method_16_code 249 = .ok (.if_icmp .ne 7, 3) := by decide +kernel
theorem d_p15m16_252 : decode prog_15_method_16_code 252 = .ok (.iconst 1, 1) := by decide +kernel
theorem d_p15m16_253 : decode prog_15_method_16_code 253 = .ok (.goto 4, 3) := by decide +kernel
theorem d_p15m16_256 : decode prog_15_method_16_code 256 = .ok (.iconst 0, 1) := by decide +kernel
theorem d_p15m16_257 : decode prog_15_method_16_code 257 = .ok (.ireturn, 1) := by decide +kernel
abbrev y_Mod_isPattern : MethodName := ⟨"PolicyDeskModel", "isPattern", "(I)Z"⟩
theorem ok_Mod_isPattern : pd_ok y_Mod_isPattern prog_15_method_16_code 4 (some .boolean) 1 := ⟨mT_1376, mT_21, by decide, by decide +kernel⟩
abbrev rm_Mod_isPattern : Room := { frames := 4, cells := 0, slots := 0, locals := 88 }
set_option maxHeartbeats 4000000 in
set_option maxRecDepth 100000 in
theorem c_Mod_isPattern (l : Launch) (G : pd_G) (h : pd_H) {y : Nat} {ad : Nat → Nat} {fv : Nat → Nat → Int32} {iv : Nat → Int32} {tl : Int64} {cs : List Nat} {nw i0 : Nat} {sA eA : Nat → Nat} (hMO : pd_MO G h y ad fv iv tl) (hL : gm_L fv iv cs) (hW : gm_W fv cs nw sA eA) (hiw : i0 < nw) : pd_M l y_Mod_isPattern prog_15_method_16_code 4 (some .boolean) rm_Mod_isPattern G h [.ref y, .int (nI i0)] pd_vb (fun r h1 => r = (gm_pat cs (sA i0) (eA i0)).isSome ∧ pd_kx [20] h h1 ∧ ∃ a b c9 d, pd_MO G h1 y ad fv (pd_fu (pd_fu (pd_fu (pd_fu iv 37 a) 38 b) 39 c9) 40 d) tl ∧ ∀ t, gm_pat cs (sA i0) (eA i0) = some t → a = nI t.1 ∧ b = nI t.2.1 ∧ c9 = nI t.2.2.1 ∧ d = nI t.2.2.2) := by
  refine pd_M.of (by decide) (Nat.le_of_ble_eq_true rfl) ?_
  intro p e s m below meth c X hmn w ls hl
  have hx := X.1
  have hb := X.2.1
  have hl : lv_has ls 4 [(0, .ref y), (1, .int (nI i0))] := hl
  have hz_y := hMO.2.1
  have hy0 : h y = some (20, .inr (10, [.ref (ad 0), .ref (ad 1), .ref (ad 2), .int (iv 3), .int (iv 4), .int (iv 5), .ref (ad 6), .ref (ad 7), .ref (ad 8), .ref (ad 9), .ref (ad 10), .ref (ad 11), .int (iv 12), .ref (ad 13), .ref (ad 14), .ref (ad 15), .ref (ad 16), .ref (ad 17), .ref (ad 18), .ref (ad 19), .int (iv 20), .ref (ad 21), .ref (ad 22), .ref (ad 23), .ref (ad 24), .ref (ad 25), .ref (ad 26), .ref (ad 27), .ref (ad 28), .int (iv 29), .ref (ad 30), .ref (ad 31), .int (iv 32), .int (iv 33), .int (iv 34), .int (iv 35), .long tl, .int (iv 37), .int (iv 38), .int (iv 39), .int (iv 40), .ref (ad 41), .ref (ad 42), .int (iv 43)])) := hMO.1
  have ha0 : h (ad 0) = some (30, .inl (.int, 60, .inl (fv 0))) := (hMO.2.2 0 (by decide)).1
  have ha1 : h (ad 1) = some (31, .inl (.int, 40, .inl (fv 1))) := (hMO.2.2 1 (by decide)).1
  have ha2 : h (ad 2) = some (32, .inl (.int, 40, .inl (fv 2))) := (hMO.2.2 2 (by decide)).1
  obtain ⟨hiv3, hln, hl60, hlc⟩ := id hL
  have hw31 := hW.1
  obtain ⟨hws, hwe, hwl, hwc⟩ := hW.2 i0 hiw
  refine lv_aload_n hx hb d_p15m16_0 rfl (lv_at hl 0 rfl) ?_
  refine pd_get X w hy0 rfl 1 (by decide) mT_1140 rfl rfl d_p15m16_1 ?_
  refine lv_iload_n hx hb d_p15m16_4 rfl (lv_at hl 1 rfl) ?_
  refine pd_iald X w ha1 (by omega) (by omega) d_p15m16_5 ?_
  refine pd_top (v' := .int (nI (sA i0))) (congrArg Value.int hws) ?_
  refine lv_istore_n (lv' := [(2, .int (nI (sA i0))), (0, .ref y), (1, .int (nI i0))]) hx hb d_p15m16_6 rfl hl (by decide) rfl (fun ls hl => ?_)
  refine lv_aload_n hx hb d_p15m16_7 rfl (lv_at hl 1 rfl) ?_
  refine pd_get X w hy0 rfl 2 (by decide) mT_1141 rfl rfl d_p15m16_8 ?_
  refine lv_iload_n hx hb d_p15m16_11 rfl (lv_at hl 2 rfl) ?_
  refine pd_iald X w ha2 (by omega) (by omega) d_p15m16_12 ?_
  refine pd_top (v' := .int (nI (eA i0))) (congrArg Value.int hwe) ?_
  refine lv_istore_n (lv' := [(3, .int (nI (eA i0))), (2, .int (nI (sA i0))), (0, .ref y), (1, .int (nI i0))]) hx hb d_p15m16_13 rfl hl (by decide) rfl (fun ls hl => ?_)
  refine lv_aload_n hx hb d_p15m16_14 rfl (lv_at hl 2 rfl) ?_
  refine lv_iload_n hx hb d_p15m16_15 rfl (lv_at hl 1 rfl) ?_
  refine pd_put (ty := .int) X w hy0 hz_y rfl 38 (by decide) mT_1177 rfl rfl (by decide +kernel) rfl rfl (Nat.le_of_ble_eq_true rfl) d_p15m16_16 (fun H locs w => ?_)
  have w : pd_w G s H locs (pd_up h y (20, .inr (10, [.ref (ad 0), .ref (ad 1), .ref (ad 2), .int (iv 3), .int (iv 4), .int (iv 5), .ref (ad 6), .ref (ad 7), .ref (ad 8), .ref (ad 9), .ref (ad 10), .ref (ad 11), .int (iv 12), .ref (ad 13), .ref (ad 14), .ref (ad 15), .ref (ad 16), .ref (ad 17), .ref (ad 18), .ref (ad 19), .int (iv 20), .ref (ad 21), .ref (ad 22), .ref (ad 23), .ref (ad 24), .ref (ad 25), .ref (ad 26), .ref (ad 27), .ref (ad 28), .int (iv 29), .ref (ad 30), .ref (ad 31), .int (iv 32), .int (iv 33), .int (iv 34), .int (iv 35), .long tl, .int (iv 37), .int (nI (sA i0)), .int (iv 39), .int (iv 40), .ref (ad 41), .ref (ad 42), .int (iv 43)]))) := w
  obtain ⟨h1, u4⟩ : ∃ z, z = pd_up h y (20, .inr (10, [.ref (ad 0), .ref (ad 1), .ref (ad 2), .int (iv 3), .int (iv 4), .int (iv 5), .ref (ad 6), .ref (ad 7), .ref (ad 8), .ref (ad 9), .ref (ad 10), .ref (ad 11), .int (iv 12), .ref (ad 13), .ref (ad 14), .ref (ad 15), .ref (ad 16), .ref (ad 17), .ref (ad 18), .ref (ad 19), .int (iv 20), .ref (ad 21), .ref (ad 22), .ref (ad 23), .ref (ad 24), .ref (ad 25), .ref (ad 26), .ref (ad 27), .ref (ad 28), .int (iv 29), .ref (ad 30), .ref (ad 31), .int (iv 32), .int (iv 33), .int (iv 34), .int (iv 35), .long tl, .int (iv 37), .int (nI (sA i0)), .int (iv 39), .int (iv 40), .ref (ad 41), .ref (ad 42), .int (iv 43)])) := ⟨_, rfl⟩
  rw [← u4] at w
  have k2 : pd_kq y h h1 := by rw [u4]; exact pd_up_kq
  have f3 : h1 y = some (20, .inr (10, [.ref (ad 0), .ref (ad 1), .ref (ad 2), .int (iv 3), .int (iv 4), .int (iv 5), .ref (ad 6), .ref (ad 7), .ref (ad 8), .ref (ad 9), .ref (ad 10), .ref (ad 11), .int (iv 12), .ref (ad 13), .ref (ad 14), .ref (ad 15), .ref (ad 16), .ref (ad 17), .ref (ad 18), .ref (ad 19), .int (iv 20), .ref (ad 21), .ref (ad 22), .ref (ad 23), .ref (ad 24), .ref (ad 25), .ref (ad 26), .ref (ad 27), .ref (ad 28), .int (iv 29), .ref (ad 30), .ref (ad 31), .int (iv 32), .int (iv 33), .int (iv 34), .int (iv 35), .long tl, .int (iv 37), .int (nI (sA i0)), .int (iv 39), .int (iv 40), .ref (ad 41), .ref (ad 42), .int (iv 43)])) := by rw [u4]; exact pd_up_s _ _ _
  have f5 := k2 _ _ (pd_ne ha0 hy0 (by simp)) ha0
  have f6 := k2 _ _ (pd_ne ha1 hy0 (by simp)) ha1
  have f7 := k2 _ _ (pd_ne ha2 hy0 (by simp)) ha2
  refine lv_aload_n hx hb d_p15m16_19 rfl (lv_at hl 2 rfl) ?_
  refine lv_iconst (v := nI 3) hx hb d_p15m16_20 (by decide) ?_
  refine pd_put (ty := .int) X w f3 hz_y rfl 37 (by decide) mT_1176 rfl rfl (by decide +kernel) rfl rfl (Nat.le_of_ble_eq_true rfl) d_p15m16_21 (fun H locs w => ?_)
  have w : pd_w G s H locs (pd_up h1 y (20, .inr (10, [.ref (ad 0), .ref (ad 1), .ref (ad 2), .int (iv 3), .int (iv 4), .int (iv 5), .ref (ad 6), .ref (ad 7), .ref (ad 8), .ref (ad 9), .ref (ad 10), .ref (ad 11), .int (iv 12), .ref (ad 13), .ref (ad 14), .ref (ad 15), .ref (ad 16), .ref (ad 17), .ref (ad 18), .ref (ad 19), .int (iv 20), .ref (ad 21), .ref (ad 22), .ref (ad 23), .ref (ad 24), .ref (ad 25), .ref (ad 26), .ref (ad 27), .ref (ad 28), .int (iv 29), .ref (ad 30), .ref (ad 31), .int (iv 32), .int (iv 33), .int (iv 34), .int (iv 35), .long tl, .int (nI 3), .int (nI (sA i0)), .int (iv 39), .int (iv 40), .ref (ad 41), .ref (ad 42), .int (iv 43)]))) := w
  obtain ⟨h8, u11⟩ : ∃ z, z = pd_up h1 y (20, .inr (10, [.ref (ad 0), .ref (ad 1), .ref (ad 2), .int (iv 3), .int (iv 4), .int (iv 5), .ref (ad 6), .ref (ad 7), .ref (ad 8), .ref (ad 9), .ref (ad 10), .ref (ad 11), .int (iv 12), .ref (ad 13), .ref (ad 14), .ref (ad 15), .ref (ad 16), .ref (ad 17), .ref (ad 18), .ref (ad 19), .int (iv 20), .ref (ad 21), .ref (ad 22), .ref (ad 23), .ref (ad 24), .ref (ad 25), .ref (ad 26), .ref (ad 27), .ref (ad 28), .int (iv 29), .ref (ad 30), .ref (ad 31), .int (iv 32), .int (iv 33), .int (iv 34), .int (iv 35), .long tl, .int (nI 3), .int (nI (sA i0)), .int (iv 39), .int (iv 40), .ref (ad 41), .ref (ad 42), .int (iv 43)])) := ⟨_, rfl⟩
  rw [← u11] at w
  have k9 : pd_kq y h1 h8 := by rw [u11]; exact pd_up_kq
  have f10 : h8 y = some (20, .inr (10, [.ref (ad 0), .ref (ad 1), .ref (ad 2), .int (iv 3), .int (iv 4), .int (iv 5), .ref (ad 6), .ref (ad 7), .ref (ad 8), .ref (ad 9), .ref (ad 10), .ref (ad 11), .int (iv 12), .ref (ad 13), .ref (ad 14), .ref (ad 15), .ref (ad 16), .ref (ad 17), .ref (ad 18), .ref (ad 19), .int (iv 20), .ref (ad 21), .ref (ad 22), .ref (ad 23), .ref (ad 24), .ref (ad 25), .ref (ad 26), .ref (ad 27), .ref (ad 28), .int (iv 29), .ref (ad 30), .ref (ad 31), .int (iv 32), .int (iv 33), .int (iv 34), .int (iv 35), .long tl, .int (nI 3), .int (nI (sA i0)), .int (iv 39), .int (iv 40), .ref (ad 41), .ref (ad 42), .int (iv 43)])) := by rw [u11]; exact pd_up_s _ _ _
  have f12 := k9 _ _ (pd_ne f5 f3 (by simp)) f5
  have f13 := k9 _ _ (pd_ne f6 f3 (by simp)) f6
  have f14 := k9 _ _ (pd_ne f7 f3 (by simp)) f7
  refine lv_iload_n hx hb d_p15m16_24 rfl (lv_at hl 1 rfl) ?_
  refine lv_iconst (v := nI 1) hx hb d_p15m16_25 (by decide) ?_
  refine pd_iadd hx hb d_p15m16_26 ?_
  refine lv_iload_n hx hb d_p15m16_27 rfl (lv_at hl 0 rfl) ?_
  refine pd_jge (tgt := 61) hx hb d_p15m16_28 (by decide) (by omega) (by omega) (fun q15 => ?_) (fun q15 => ?_)
  · -- taken: 61
    refine lv_aload_n hx hb d_p15m16_61 rfl (lv_at hl 2 rfl) ?_
    refine lv_iload_n hx hb d_p15m16_62 rfl (lv_at hl 1 rfl) ?_
    refine lv_iload_n hx hb d_p15m16_63 rfl (lv_at hl 0 rfl) ?_
    refine pd_cV (a := y) (As := [.int (nI (sA i0)), .int (nI (eA i0))]) (rest := []) X w f10 rfl (c_PolicyDeskModel_behindName l G h8 (ad := ad) (fv := fv) (iv := pd_fu (pd_fu iv 37 (nI 3)) 38 (nI (sA i0))) (tl := tl) (pd_MO.of (fv2 := fv) (iv2 := pd_fu (pd_fu iv 37 (nI 3)) 38 (nI (sA i0))) (tl2 := tl) (ts := [20]) hMO (pd_kx.tr (pd_kq.kx (k2) hy0) (pd_kq.kx (k9) f3)) f10 (fun j hj => Or.inr ⟨fun z => by first | (simp at z; done) | (simp at z; omega), rfl⟩)) hL (by omega) (by omega)) ok_PolicyDeskModel_behindName ⟨mT_1311, sT_18⟩ mT_1309 ⟨by decide, by decide⟩ rfl hl.1 rfl (Nat.le_of_ble_eq_true rfl) d_p15m16_64 ⟨by decide, by decide⟩ (fun r16 h17 H locs hp18 w => ?_)
    refine W.widen (k := 0) (n := 0) (by decide) (by decide) ?_
    obtain ⟨e19, rfl⟩ := hp18
    subst e19
    have hnl := gm_name_le (cs := cs) (Nat.le_of_lt hwl)
    refine lv_istore_n (lv' := [(2, .int (nI (gm_name cs (sA i0) (eA i0)))), (3, .int (nI (eA i0))), (0, .ref y), (1, .int (nI i0))]) hx hb d_p15m16_67 rfl hl (by decide) rfl (fun ls hl => ?_)
    refine lv_iload_n hx hb d_p15m16_68 rfl (lv_at hl 0 rfl) ?_
    refine lv_aload_n hx hb d_p15m16_69 rfl (lv_at hl 2 rfl) ?_
    refine pd_get X w f10 rfl 1 (by decide) mT_1140 rfl rfl d_p15m16_70 ?_
    refine lv_iload_n hx hb d_p15m16_73 rfl (lv_at hl 3 rfl) ?_
    refine pd_iald X w f13 (by omega) (by omega) d_p15m16_74 ?_
    refine pd_top (v' := .int (nI (sA i0))) (congrArg Value.int hws) ?_
    refine pd_jne (tgt := 80) hx hb d_p15m16_75 (by decide) (by omega) (by omega) (fun q20 => ?_) (fun q20 => ?_)
    · -- taken: 80
      refine lv_aload_n hx hb d_p15m16_80 rfl (lv_at hl 2 rfl) ?_
      refine lv_iload_n hx hb d_p15m16_81 rfl (lv_at hl 0 rfl) ?_
      refine pd_put (ty := .int) X w f10 hz_y rfl 38 (by decide) mT_1177 rfl rfl (by decide +kernel) rfl rfl (Nat.le_of_ble_eq_true rfl) d_p15m16_82 (fun H locs w => ?_)
      have w : pd_w G s H locs (pd_up h8 y (20, .inr (10, [.ref (ad 0), .ref (ad 1), .ref (ad 2), .int (iv 3), .int (iv 4), .int (iv 5), .ref (ad 6), .ref (ad 7), .ref (ad 8), .ref (ad 9), .ref (ad 10), .ref (ad 11), .int (iv 12), .ref (ad 13), .ref (ad 14), .ref (ad 15), .ref (ad 16), .ref (ad 17), .ref (ad 18), .ref (ad 19), .int (iv 20), .ref (ad 21), .ref (ad 22), .ref (ad 23), .ref (ad 24), .ref (ad 25), .ref (ad 26), .ref (ad 27), .ref (ad 28), .int (iv 29), .ref (ad 30), .ref (ad 31), .int (iv 32), .int (iv 33), .int (iv 34), .int (iv 35), .long tl, .int (nI 3), .int (nI (gm_name cs (sA i0) (eA i0))), .int (iv 39), .int (iv 40), .ref (ad 41), .ref (ad 42), .int (iv 43)]))) := w
      obtain ⟨h21, u24⟩ : ∃ z, z = pd_up h8 y (20, .inr (10, [.ref (ad 0), .ref (ad 1), .ref (ad 2), .int (iv 3), .int (iv 4), .int (iv 5), .ref (ad 6), .ref (ad 7), .ref (ad 8), .ref (ad 9), .ref (ad 10), .ref (ad 11), .int (iv 12), .ref (ad 13), .ref (ad 14), .ref (ad 15), .ref (ad 16), .ref (ad 17), .ref (ad 18), .ref (ad 19), .int (iv 20), .ref (ad 21), .ref (ad 22), .ref (ad 23), .ref (ad 24), .ref (ad 25), .ref (ad 26), .ref (ad 27), .ref (ad 28), .int (iv 29), .ref (ad 30), .ref (ad 31), .int (iv 32), .int (iv 33), .int (iv 34), .int (iv 35), .long tl, .int (nI 3), .int (nI (gm_name cs (sA i0) (eA i0))), .int (iv 39), .int (iv 40), .ref (ad 41), .ref (ad 42), .int (iv 43)])) := ⟨_, rfl⟩
      rw [← u24] at w
      have k22 : pd_kq y h8 h21 := by rw [u24]; exact pd_up_kq
      have f23 : h21 y = some (20, .inr (10, [.ref (ad 0), .ref (ad 1), .ref (ad 2), .int (iv 3), .int (iv 4), .int (iv 5), .ref (ad 6), .ref (ad 7), .ref (ad 8), .ref (ad 9), .ref (ad 10), .ref (ad 11), .int (iv 12), .ref (ad 13), .ref (ad 14), .ref (ad 15), .ref (ad 16), .ref (ad 17), .ref (ad 18), .ref (ad 19), .int (iv 20), .ref (ad 21), .ref (ad 22), .ref (ad 23), .ref (ad 24), .ref (ad 25), .ref (ad 26), .ref (ad 27), .ref (ad 28), .int (iv 29), .ref (ad 30), .ref (ad 31), .int (iv 32), .int (iv 33), .int (iv 34), .int (iv 35), .long tl, .int (nI 3), .int (nI (gm_name cs (sA i0) (eA i0))), .int (iv 39), .int (iv 40), .ref (ad 41), .ref (ad 42), .int (iv 43)])) := by rw [u24]; exact pd_up_s _ _ _
      have f25 := k22 _ _ (pd_ne f12 f10 (by simp)) f12
      have f26 := k22 _ _ (pd_ne f13 f10 (by simp)) f13
      have f27 := k22 _ _ (pd_ne f14 f10 (by simp)) f14
      refine lv_aload_n hx hb d_p15m16_85 rfl (lv_at hl 2 rfl) ?_
      refine lv_iconst (v := nI 0) hx hb d_p15m16_86 (by decide) ?_
      refine pd_put (ty := .int) X w f23 hz_y rfl 37 (by decide) mT_1176 rfl rfl (by decide +kernel) rfl rfl (Nat.le_of_ble_eq_true rfl) d_p15m16_87 (fun H locs w => ?_)
      have w : pd_w G s H locs (pd_up h21 y (20, .inr (10, [.ref (ad 0), .ref (ad 1), .ref (ad 2), .int (iv 3), .int (iv 4), .int (iv 5), .ref (ad 6), .ref (ad 7), .ref (ad 8), .ref (ad 9), .ref (ad 10), .ref (ad 11), .int (iv 12), .ref (ad 13), .ref (ad 14), .ref (ad 15), .ref (ad 16), .ref (ad 17), .ref (ad 18), .ref (ad 19), .int (iv 20), .ref (ad 21), .ref (ad 22), .ref (ad 23), .ref (ad 24), .ref (ad 25), .ref (ad 26), .ref (ad 27), .ref (ad 28), .int (iv 29), .ref (ad 30), .ref (ad 31), .int (iv 32), .int (iv 33), .int (iv 34), .int (iv 35), .long tl, .int (nI 0), .int (nI (gm_name cs (sA i0) (eA i0))), .int (iv 39), .int (iv 40), .ref (ad 41), .ref (ad 42), .int (iv 43)]))) := w
      obtain ⟨h28, u31⟩ : ∃ z, z = pd_up h21 y (20, .inr (10, [.ref (ad 0), .ref (ad 1), .ref (ad 2), .int (iv 3), .int (iv 4), .int (iv 5), .ref (ad 6), .ref (ad 7), .ref (ad 8), .ref (ad 9), .ref (ad 10), .ref (ad 11), .int (iv 12), .ref (ad 13), .ref (ad 14), .ref (ad 15), .ref (ad 16), .ref (ad 17), .ref (ad 18), .ref (ad 19), .int (iv 20), .ref (ad 21), .ref (ad 22), .ref (ad 23), .ref (ad 24), .ref (ad 25), .ref (ad 26), .ref (ad 27), .ref (ad 28), .int (iv 29), .ref (ad 30), .ref (ad 31), .int (iv 32), .int (iv 33), .int (iv 34), .int (iv 35), .long tl, .int (nI 0), .int (nI (gm_name cs (sA i0) (eA i0))), .int (iv 39), .int (iv 40), .ref (ad 41), .ref (ad 42), .int (iv 43)])) := ⟨_, rfl⟩
      rw [← u31] at w
      have k29 : pd_kq y h21 h28 := by rw [u31]; exact pd_up_kq
      have f30 : h28 y = some (20, .inr (10, [.ref (ad 0), .ref (ad 1), .ref (ad 2), .int (iv 3), .int (iv 4), .int (iv 5), .ref (ad 6), .ref (ad 7), .ref (ad 8), .ref (ad 9), .ref (ad 10), .ref (ad 11), .int (iv 12), .ref (ad 13), .ref (ad 14), .ref (ad 15), .ref (ad 16), .ref (ad 17), .ref (ad 18), .ref (ad 19), .int (iv 20), .ref (ad 21), .ref (ad 22), .ref (ad 23), .ref (ad 24), .ref (ad 25), .ref (ad 26), .ref (ad 27), .ref (ad 28), .int (iv 29), .ref (ad 30), .ref (ad 31), .int (iv 32), .int (iv 33), .int (iv 34), .int (iv 35), .long tl, .int (nI 0), .int (nI (gm_name cs (sA i0) (eA i0))), .int (iv 39), .int (iv 40), .ref (ad 41), .ref (ad 42), .int (iv 43)])) := by rw [u31]; exact pd_up_s _ _ _
      have f32 := k29 _ _ (pd_ne f25 f23 (by simp)) f25
      have f33 := k29 _ _ (pd_ne f26 f23 (by simp)) f26
      have f34 := k29 _ _ (pd_ne f27 f23 (by simp)) f27
      refine lv_iload_n hx hb d_p15m16_90 rfl (lv_at hl 0 rfl) ?_
      refine lv_iconst (v := nI 1) hx hb d_p15m16_91 (by decide) ?_
      refine pd_iadd hx hb d_p15m16_92 ?_
      refine lv_iload_n hx hb d_p15m16_93 rfl (lv_at hl 1 rfl) ?_
      refine pd_jge (tgt := 159) hx hb d_p15m16_94 (by decide) (by omega) (by omega) (fun q35 => ?_) (fun q35 => ?_)
      · -- taken: 159
        have hph : gm_ph cs (sA i0) (eA i0) = some (0, gm_name cs (sA i0) (eA i0), gm_name cs (sA i0) (eA i0)) := by unfold gm_ph; rw [if_neg (by omega), if_neg (by omega), if_neg (by omega)]
        refine lv_aload_n hx hb d_p15m16_159 rfl (lv_at hl 2 rfl) ?_
        refine lv_iconst (v := nI 0) hx hb d_p15m16_160 (by decide) ?_
        refine pd_put (ty := .int) X w f30 hz_y rfl 39 (by decide) mT_1178 rfl rfl (by decide +kernel) rfl rfl (Nat.le_of_ble_eq_true rfl) d_p15m16_161 (fun H locs w => ?_)
        have w : pd_w G s H locs (pd_up h28 y (20, .inr (10, [.ref (ad 0), .ref (ad 1), .ref (ad 2), .int (iv 3), .int (iv 4), .int (iv 5), .ref (ad 6), .ref (ad 7), .ref (ad 8), .ref (ad 9), .ref (ad 10), .ref (ad 11), .int (iv 12), .ref (ad 13), .ref (ad 14), .ref (ad 15), .ref (ad 16), .ref (ad 17), .ref (ad 18), .ref (ad 19), .int (iv 20), .ref (ad 21), .ref (ad 22), .ref (ad 23), .ref (ad 24), .ref (ad 25), .ref (ad 26), .ref (ad 27), .ref (ad 28), .int (iv 29), .ref (ad 30), .ref (ad 31), .int (iv 32), .int (iv 33), .int (iv 34), .int (iv 35), .long tl, .int (nI 0), .int (nI (gm_name cs (sA i0) (eA i0))), .int (nI 0), .int (iv 40), .ref (ad 41), .ref (ad 42), .int (iv 43)]))) := w
        obtain ⟨h36, u39⟩ : ∃ z, z = pd_up h28 y (20, .inr (10, [.ref (ad 0), .ref (ad 1), .ref (ad 2), .int (iv 3), .int (iv 4), .int (iv 5), .ref (ad 6), .ref (ad 7), .ref (ad 8), .ref (ad 9), .ref (ad 10), .ref (ad 11), .int (iv 12), .ref (ad 13), .ref (ad 14), .ref (ad 15), .ref (ad 16), .ref (ad 17), .ref (ad 18), .ref (ad 19), .int (iv 20), .ref (ad 21), .ref (ad 22), .ref (ad 23), .ref (ad 24), .ref (ad 25), .ref (ad 26), .ref (ad 27), .ref (ad 28), .int (iv 29), .ref (ad 30), .ref (ad 31), .int (iv 32), .int (iv 33), .int (iv 34), .int (iv 35), .long tl, .int (nI 0), .int (nI (gm_name cs (sA i0) (eA i0))), .int (nI 0), .int (iv 40), .ref (ad 41), .ref (ad 42), .int (iv 43)])) := ⟨_, rfl⟩
        rw [← u39] at w
        have k37 : pd_kq y h28 h36 := by rw [u39]; exact pd_up_kq
        have f38 : h36 y = some (20, .inr (10, [.ref (ad 0), .ref (ad 1), .ref (ad 2), .int (iv 3), .int (iv 4), .int (iv 5), .ref (ad 6), .ref (ad 7), .ref (ad 8), .ref (ad 9), .ref (ad 10), .ref (ad 11), .int (iv 12), .ref (ad 13), .ref (ad 14), .ref (ad 15), .ref (ad 16), .ref (ad 17), .ref (ad 18), .ref (ad 19), .int (iv 20), .ref (ad 21), .ref (ad 22), .ref (ad 23), .ref (ad 24), .ref (ad 25), .ref (ad 26), .ref (ad 27), .ref (ad 28), .int (iv 29), .ref (ad 30), .ref (ad 31), .int (iv 32), .int (iv 33), .int (iv 34), .int (iv 35), .long tl, .int (nI 0), .int (nI (gm_name cs (sA i0) (eA i0))), .int (nI 0), .int (iv 40), .ref (ad 41), .ref (ad 42), .int (iv 43)])) := by rw [u39]; exact pd_up_s _ _ _
        have f40 := k37 _ _ (pd_ne f32 f30 (by simp)) f32
        have f41 := k37 _ _ (pd_ne f33 f30 (by simp)) f33
        have f42 := k37 _ _ (pd_ne f34 f30 (by simp)) f34
        refine lv_aload_n hx hb d_p15m16_164 rfl (lv_at hl 2 rfl) ?_
        refine lv_iload_n hx hb d_p15m16_165 rfl (lv_at hl 1 rfl) ?_
        refine pd_put (ty := .int) X w f38 hz_y rfl 40 (by decide) mT_1179 rfl rfl (by decide +kernel) rfl rfl (Nat.le_of_ble_eq_true rfl) d_p15m16_166 (fun H locs w => ?_)
        have w : pd_w G s H locs (pd_up h36 y (20, .inr (10, [.ref (ad 0), .ref (ad 1), .ref (ad 2), .int (iv 3), .int (iv 4), .int (iv 5), .ref (ad 6), .ref (ad 7), .ref (ad 8), .ref (ad 9), .ref (ad 10), .ref (ad 11), .int (iv 12), .ref (ad 13), .ref (ad 14), .ref (ad 15), .ref (ad 16), .ref (ad 17), .ref (ad 18), .ref (ad 19), .int (iv 20), .ref (ad 21), .ref (ad 22), .ref (ad 23), .ref (ad 24), .ref (ad 25), .ref (ad 26), .ref (ad 27), .ref (ad 28), .int (iv 29), .ref (ad 30), .ref (ad 31), .int (iv 32), .int (iv 33), .int (iv 34), .int (iv 35), .long tl, .int (nI 0), .int (nI (gm_name cs (sA i0) (eA i0))), .int (nI 0), .int (nI (eA i0)), .ref (ad 41), .ref (ad 42), .int (iv 43)]))) := w
        obtain ⟨h43, u46⟩ : ∃ z, z = pd_up h36 y (20, .inr (10, [.ref (ad 0), .ref (ad 1), .ref (ad 2), .int (iv 3), .int (iv 4), .int (iv 5), .ref (ad 6), .ref (ad 7), .ref (ad 8), .ref (ad 9), .ref (ad 10), .ref (ad 11), .int (iv 12), .ref (ad 13), .ref (ad 14), .ref (ad 15), .ref (ad 16), .ref (ad 17), .ref (ad 18), .ref (ad 19), .int (iv 20), .ref (ad 21), .ref (ad 22), .ref (ad 23), .ref (ad 24), .ref (ad 25), .ref (ad 26), .ref (ad 27), .ref (ad 28), .int (iv 29), .ref (ad 30), .ref (ad 31), .int (iv 32), .int (iv 33), .int (iv 34), .int (iv 35), .long tl, .int (nI 0), .int (nI (gm_name cs (sA i0) (eA i0))), .int (nI 0), .int (nI (eA i0)), .ref (ad 41), .ref (ad 42), .int (iv 43)])) := ⟨_, rfl⟩
        rw [← u46] at w
        have k44 : pd_kq y h36 h43 := by rw [u46]; exact pd_up_kq
        have f45 : h43 y = some (20, .inr (10, [.ref (ad 0), .ref (ad 1), .ref (ad 2), .int (iv 3), .int (iv 4), .int (iv 5), .ref (ad 6), .ref (ad 7), .ref (ad 8), .ref (ad 9), .ref (ad 10), .ref (ad 11), .int (iv 12), .ref (ad 13), .ref (ad 14), .ref (ad 15), .ref (ad 16), .ref (ad 17), .ref (ad 18), .ref (ad 19), .int (iv 20), .ref (ad 21), .ref (ad 22), .ref (ad 23), .ref (ad 24), .ref (ad 25), .ref (ad 26), .ref (ad 27), .ref (ad 28), .int (iv 29), .ref (ad 30), .ref (ad 31), .int (iv 32), .int (iv 33), .int (iv 34), .int (iv 35), .long tl, .int (nI 0), .int (nI (gm_name cs (sA i0) (eA i0))), .int (nI 0), .int (nI (eA i0)), .ref (ad 41), .ref (ad 42), .int (iv 43)])) := by rw [u46]; exact pd_up_s _ _ _
        have f47 := k44 _ _ (pd_ne f40 f38 (by simp)) f40
        have f48 := k44 _ _ (pd_ne f41 f38 (by simp)) f41
        have f49 := k44 _ _ (pd_ne f42 f38 (by simp)) f42
        refine lv_iload_n hx hb d_p15m16_169 rfl (lv_at hl 0 rfl) ?_
        refine lv_iload_n hx hb d_p15m16_170 rfl (lv_at hl 1 rfl) ?_
        refine pd_jne (tgt := 176) hx hb d_p15m16_171 (by decide) (by omega) (by omega) (fun q50 => ?_) (fun q50 => ?_)
        · -- taken: 176
          refine lv_aload_n hx hb d_p15m16_176 rfl (lv_at hl 2 rfl) ?_
          refine pd_get X w f45 rfl 0 (by decide) mT_1139 rfl rfl d_p15m16_177 ?_
          refine lv_iload_n hx hb d_p15m16_180 rfl (lv_at hl 0 rfl) ?_
          refine pd_iald X w f47 (by omega) (by omega) d_p15m16_181 ?_
          refine pd_top (v' := .int (nI (cs.getD (gm_name cs (sA i0) (eA i0)) 0))) (congrArg Value.int (hln _ (by omega))) ?_
          have := tx_lt hlc (gm_name cs (sA i0) (eA i0))
          refine lv_bipush (v := nI 46) hx hb d_p15m16_182 (by decide) ?_
          refine pd_jne (tgt := 194) hx hb d_p15m16_184 (by decide) (by omega) (by omega) (fun q51 => ?_) (fun q51 => ?_)
          · -- taken: 194
            refine lv_iconst (v := nI 0) hx hb d_p15m16_194 (by decide) ?_
            have hpt : gm_pt cs (gm_name cs (sA i0) (eA i0)) (eA i0) = none := by unfold gm_pt; rw [if_neg (by omega), if_pos (by omega)]
            have hp : gm_pat cs (sA i0) (eA i0) = none := by unfold gm_pat; rw [hph]; simp only [hpt]
            refine W.eq (g2 := F0 m 195 ls [.int (pd_b false)]) rfl ?_
            exact pd_zret (v := false) X w ⟨by rw [hp]; rfl, pd_kx.tr (pd_kx.tr (pd_kx.tr (pd_kx.tr (pd_kx.tr (pd_kq.kx (k2) hy0) (pd_kq.kx (k9) f3)) (pd_kq.kx (k22) f10)) (pd_kq.kx (k29) f23)) (pd_kq.kx (k37) f30)) (pd_kq.kx (k44) f38), (nI 0), (nI (gm_name cs (sA i0) (eA i0))), (nI 0), (nI (eA i0)), (pd_MO.of (fv2 := fv) (iv2 := pd_fu (pd_fu (pd_fu (pd_fu iv 37 (nI 0)) 38 (nI (gm_name cs (sA i0) (eA i0)))) 39 (nI 0)) 40 (nI (eA i0))) (tl2 := tl) (ts := [20]) hMO (pd_kx.tr (pd_kx.tr (pd_kx.tr (pd_kx.tr (pd_kx.tr (pd_kq.kx (k2) hy0) (pd_kq.kx (k9) f3)) (pd_kq.kx (k22) f10)) (pd_kq.kx (k29) f23)) (pd_kq.kx (k37) f30)) (pd_kq.kx (k44) f38)) f45 (fun j hj => Or.inr ⟨fun z => by first | (simp at z; done) | (simp at z; omega), rfl⟩)), fun t9 ht9 => by rw [hp] at ht9; cases ht9⟩ (by decide) (by decide) d_p15m16_195
          · -- not taken: 187
            refine lv_iload_n hx hb d_p15m16_187 rfl (lv_at hl 0 rfl) ?_
            refine lv_iconst (v := nI 1) hx hb d_p15m16_188 (by decide) ?_
            refine pd_iadd hx hb d_p15m16_189 ?_
            refine lv_iload_n hx hb d_p15m16_190 rfl (lv_at hl 1 rfl) ?_
            refine pd_jne (tgt := 196) hx hb d_p15m16_191 (by decide) (by omega) (by omega) (fun q52 => ?_) (fun q52 => ?_)
            · -- taken: 196
              refine lv_aload_n hx hb d_p15m16_196 rfl (lv_at hl 2 rfl) ?_
              refine lv_aload_n hx hb d_p15m16_197 rfl (lv_at hl 2 rfl) ?_
              refine pd_get X w f45 rfl 0 (by decide) mT_1139 rfl rfl d_p15m16_198 ?_
              refine lv_iload_n hx hb d_p15m16_201 rfl (lv_at hl 0 rfl) ?_
              refine lv_iconst (v := nI 1) hx hb d_p15m16_202 (by decide) ?_
              refine pd_iadd hx hb d_p15m16_203 ?_
              refine pd_iald X w f47 (by omega) (by omega) d_p15m16_204 ?_
              refine pd_top (v' := .int (nI (cs.getD ((gm_name cs (sA i0) (eA i0)) + 1) 0))) (congrArg Value.int (hln _ (by omega))) ?_
              have := tx_lt hlc ((gm_name cs (sA i0) (eA i0)) + 1)
              refine lv_bipush (v := nI 42) hx hb d_p15m16_205 (by decide) ?_
              refine pd_jne (tgt := 221) hx hb d_p15m16_207 (by decide) (by omega) (by omega) (fun q53 => ?_) (fun q53 => ?_)
              · -- taken: 221
                refine lv_iconst (v := nI 2) hx hb d_p15m16_221 (by decide) ?_
                refine pd_put (ty := .int) X w f45 hz_y rfl 39 (by decide) mT_1178 rfl rfl (by decide +kernel) rfl rfl (Nat.le_of_ble_eq_true rfl) d_p15m16_222 (fun H locs w => ?_)
                have w : pd_w G s H locs (pd_up h43 y (20, .inr (10, [.ref (ad 0), .ref (ad 1), .ref (ad 2), .int (iv 3), .int (iv 4), .int (iv 5), .ref (ad 6), .ref (ad 7), .ref (ad 8), .ref (ad 9), .ref (ad 10), .ref (ad 11), .int (iv 12), .ref (ad 13), .ref (ad 14), .ref (ad 15), .ref (ad 16), .ref (ad 17), .ref (ad 18), .ref (ad 19), .int (iv 20), .ref (ad 21), .ref (ad 22), .ref (ad 23), .ref (ad 24), .ref (ad 25), .ref (ad 26), .ref (ad 27), .ref (ad 28), .int (iv 29), .ref (ad 30), .ref (ad 31), .int (iv 32), .int (iv 33), .int (iv 34), .int (iv 35), .long tl, .int (nI 0), .int (nI (gm_name cs (sA i0) (eA i0))), .int (nI 2), .int (nI (eA i0)), .ref (ad 41), .ref (ad 42), .int (iv 43)]))) := w
                obtain ⟨h54, u57⟩ : ∃ z, z = pd_up h43 y (20, .inr (10, [.ref (ad 0), .ref (ad 1), .ref (ad 2), .int (iv 3), .int (iv 4), .int (iv 5), .ref (ad 6), .ref (ad 7), .ref (ad 8), .ref (ad 9), .ref (ad 10), .ref (ad 11), .int (iv 12), .ref (ad 13), .ref (ad 14), .ref (ad 15), .ref (ad 16), .ref (ad 17), .ref (ad 18), .ref (ad 19), .int (iv 20), .ref (ad 21), .ref (ad 22), .ref (ad 23), .ref (ad 24), .ref (ad 25), .ref (ad 26), .ref (ad 27), .ref (ad 28), .int (iv 29), .ref (ad 30), .ref (ad 31), .int (iv 32), .int (iv 33), .int (iv 34), .int (iv 35), .long tl, .int (nI 0), .int (nI (gm_name cs (sA i0) (eA i0))), .int (nI 2), .int (nI (eA i0)), .ref (ad 41), .ref (ad 42), .int (iv 43)])) := ⟨_, rfl⟩
                rw [← u57] at w
                have k55 : pd_kq y h43 h54 := by rw [u57]; exact pd_up_kq
                have f56 : h54 y = some (20, .inr (10, [.ref (ad 0), .ref (ad 1), .ref (ad 2), .int (iv 3), .int (iv 4), .int (iv 5), .ref (ad 6), .ref (ad 7), .ref (ad 8), .ref (ad 9), .ref (ad 10), .ref (ad 11), .int (iv 12), .ref (ad 13), .ref (ad 14), .ref (ad 15), .ref (ad 16), .ref (ad 17), .ref (ad 18), .ref (ad 19), .int (iv 20), .ref (ad 21), .ref (ad 22), .ref (ad 23), .ref (ad 24), .ref (ad 25), .ref (ad 26), .ref (ad 27), .ref (ad 28), .int (iv 29), .ref (ad 30), .ref (ad 31), .int (iv 32), .int (iv 33), .int (iv 34), .int (iv 35), .long tl, .int (nI 0), .int (nI (gm_name cs (sA i0) (eA i0))), .int (nI 2), .int (nI (eA i0)), .ref (ad 41), .ref (ad 42), .int (iv 43)])) := by rw [u57]; exact pd_up_s _ _ _
                have f58 := k55 _ _ (pd_ne f47 f45 (by simp)) f47
                have f59 := k55 _ _ (pd_ne f48 f45 (by simp)) f48
                have f60 := k55 _ _ (pd_ne f49 f45 (by simp)) f49
                refine lv_aload_n hx hb d_p15m16_225 rfl (lv_at hl 2 rfl) ?_
                refine lv_iload_n hx hb d_p15m16_226 rfl (lv_at hl 0 rfl) ?_
                refine lv_iconst (v := nI 1) hx hb d_p15m16_227 (by decide) ?_
                refine pd_iadd hx hb d_p15m16_228 ?_
                refine pd_put (ty := .int) X w f56 hz_y rfl 40 (by decide) mT_1179 rfl rfl (by decide +kernel) rfl rfl (Nat.le_of_ble_eq_true rfl) d_p15m16_229 (fun H locs w => ?_)
                have w : pd_w G s H locs (pd_up h54 y (20, .inr (10, [.ref (ad 0), .ref (ad 1), .ref (ad 2), .int (iv 3), .int (iv 4), .int (iv 5), .ref (ad 6), .ref (ad 7), .ref (ad 8), .ref (ad 9), .ref (ad 10), .ref (ad 11), .int (iv 12), .ref (ad 13), .ref (ad 14), .ref (ad 15), .ref (ad 16), .ref (ad 17), .ref (ad 18), .ref (ad 19), .int (iv 20), .ref (ad 21), .ref (ad 22), .ref (ad 23), .ref (ad 24), .ref (ad 25), .ref (ad 26), .ref (ad 27), .ref (ad 28), .int (iv 29), .ref (ad 30), .ref (ad 31), .int (iv 32), .int (iv 33), .int (iv 34), .int (iv 35), .long tl, .int (nI 0), .int (nI (gm_name cs (sA i0) (eA i0))), .int (nI 2), .int (nI ((gm_name cs (sA i0) (eA i0)) + 1)), .ref (ad 41), .ref (ad 42), .int (iv 43)]))) := w
                obtain ⟨h61, u64⟩ : ∃ z, z = pd_up h54 y (20, .inr (10, [.ref (ad 0), .ref (ad 1), .ref (ad 2), .int (iv 3), .int (iv 4), .int (iv 5), .ref (ad 6), .ref (ad 7), .ref (ad 8), .ref (ad 9), .ref (ad 10), .ref (ad 11), .int (iv 12), .ref (ad 13), .ref (ad 14), .ref (ad 15), .ref (ad 16), .ref (ad 17), .ref (ad 18), .ref (ad 19), .int (iv 20), .ref (ad 21), .ref (ad 22), .ref (ad 23), .ref (ad 24), .ref (ad 25), .ref (ad 26), .ref (ad 27), .ref (ad 28), .int (iv 29), .ref (ad 30), .ref (ad 31), .int (iv 32), .int (iv 33), .int (iv 34), .int (iv 35), .long tl, .int (nI 0), .int (nI (gm_name cs (sA i0) (eA i0))), .int (nI 2), .int (nI ((gm_name cs (sA i0) (eA i0)) + 1)), .ref (ad 41), .ref (ad 42), .int (iv 43)])) := ⟨_, rfl⟩
                rw [← u64] at w
                have k62 : pd_kq y h54 h61 := by rw [u64]; exact pd_up_kq
                have f63 : h61 y = some (20, .inr (10, [.ref (ad 0), .ref (ad 1), .ref (ad 2), .int (iv 3), .int (iv 4), .int (iv 5), .ref (ad 6), .ref (ad 7), .ref (ad 8), .ref (ad 9), .ref (ad 10), .ref (ad 11), .int (iv 12), .ref (ad 13), .ref (ad 14), .ref (ad 15), .ref (ad 16), .ref (ad 17), .ref (ad 18), .ref (ad 19), .int (iv 20), .ref (ad 21), .ref (ad 22), .ref (ad 23), .ref (ad 24), .ref (ad 25), .ref (ad 26), .ref (ad 27), .ref (ad 28), .int (iv 29), .ref (ad 30), .ref (ad 31), .int (iv 32), .int (iv 33), .int (iv 34), .int (iv 35), .long tl, .int (nI 0), .int (nI (gm_name cs (sA i0) (eA i0))), .int (nI 2), .int (nI ((gm_name cs (sA i0) (eA i0)) + 1)), .ref (ad 41), .ref (ad 42), .int (iv 43)])) := by rw [u64]; exact pd_up_s _ _ _
                have f65 := k62 _ _ (pd_ne f58 f56 (by simp)) f58
                have f66 := k62 _ _ (pd_ne f59 f56 (by simp)) f59
                have f67 := k62 _ _ (pd_ne f60 f56 (by simp)) f60
                refine lv_aload_n hx hb d_p15m16_232 rfl (lv_at hl 2 rfl) ?_
                refine pd_get X w f63 rfl 39 (by decide) mT_1178 rfl rfl d_p15m16_233 ?_
                refine lv_iconst (v := nI 1) hx hb d_p15m16_236 (by decide) ?_
                refine pd_jeq (tgt := 252) hx hb d_p15m16_237 (by decide) (by decide) (by decide) (fun q => absurd q (by decide)) (fun _ => ?_)
                refine lv_aload_n hx hb d_p15m16_240 rfl (lv_at hl 2 rfl) ?_
                refine lv_iload_n hx hb d_p15m16_241 rfl (lv_at hl 0 rfl) ?_
                refine lv_iconst (v := nI 1) hx hb d_p15m16_242 (by decide) ?_
                refine pd_iadd hx hb d_p15m16_243 ?_
                refine lv_iload_n hx hb d_p15m16_244 rfl (lv_at hl 1 rfl) ?_
                refine pd_cV (a := y) (As := [.int (nI ((gm_name cs (sA i0) (eA i0)) + 1)), .int (nI (eA i0))]) (rest := []) X w f63 rfl (c_PolicyDeskModel_behindPart l G h61 (ad := ad) (fv := fv) (iv := pd_fu (pd_fu (pd_fu (pd_fu iv 37 (nI 0)) 38 (nI (gm_name cs (sA i0) (eA i0)))) 39 (nI 2)) 40 (nI ((gm_name cs (sA i0) (eA i0)) + 1))) (tl := tl) (pd_MO.of (fv2 := fv) (iv2 := pd_fu (pd_fu (pd_fu (pd_fu iv 37 (nI 0)) 38 (nI (gm_name cs (sA i0) (eA i0)))) 39 (nI 2)) 40 (nI ((gm_name cs (sA i0) (eA i0)) + 1))) (tl2 := tl) (ts := [20]) hMO (pd_kx.tr (pd_kx.tr (pd_kx.tr (pd_kx.tr (pd_kx.tr (pd_kx.tr (pd_kx.tr (pd_kq.kx (k2) hy0) (pd_kq.kx (k9) f3)) (pd_kq.kx (k22) f10)) (pd_kq.kx (k29) f23)) (pd_kq.kx (k37) f30)) (pd_kq.kx (k44) f38)) (pd_kq.kx (k55) f45)) (pd_kq.kx (k62) f56)) f63 (fun j hj => Or.inr ⟨fun z => by first | (simp at z; done) | (simp at z; omega), rfl⟩)) hL (by omega) (by omega)) ok_PolicyDeskModel_behindPart ⟨mT_1315, sT_19⟩ mT_1313 ⟨by decide, by decide⟩ rfl hl.1 rfl (Nat.le_of_ble_eq_true rfl) d_p15m16_245 ⟨by decide, by decide⟩ (fun r69 h70 H locs hp71 w => ?_)
                refine W.widen (k := 0) (n := 0) (by decide) (by decide) ?_
                obtain ⟨e72, rfl⟩ := hp71
                have hpl := gm_part_le (cs := cs) (x := gm_name cs (sA i0) (eA i0) + 1) (to := eA i0) (by omega)
                refine lv_iload_n hx hb d_p15m16_248 rfl (lv_at hl 1 rfl) ?_
                refine pd_jne (tgt := 256) hx hb d_p15m16_249 (by decide) (by omega) (by omega) (fun q73 => ?_) (fun q73 => ?_)
                · -- taken: 256
                  refine lv_iconst (v := nI 0) hx hb d_p15m16_256 (by decide) ?_
                  have hpt : gm_pt cs (gm_name cs (sA i0) (eA i0)) (eA i0) = none := by unfold gm_pt; rw [if_neg (by omega), if_neg (by omega), if_neg (by omega), if_neg (by rw [← e72]; omega)]
                  have hp : gm_pat cs (sA i0) (eA i0) = none := by unfold gm_pat; rw [hph]; simp only [hpt]
                  refine W.eq (g2 := F0 m 257 ls [.int (pd_b false)]) rfl ?_
                  exact pd_zret (v := false) X w ⟨by rw [hp]; rfl, pd_kx.tr (pd_kx.tr (pd_kx.tr (pd_kx.tr (pd_kx.tr (pd_kx.tr (pd_kx.tr (pd_kq.kx (k2) hy0) (pd_kq.kx (k9) f3)) (pd_kq.kx (k22) f10)) (pd_kq.kx (k29) f23)) (pd_kq.kx (k37) f30)) (pd_kq.kx (k44) f38)) (pd_kq.kx (k55) f45)) (pd_kq.kx (k62) f56), (nI 0), (nI (gm_name cs (sA i0) (eA i0))), (nI 2), (nI ((gm_name cs (sA i0) (eA i0)) + 1)), (pd_MO.of (fv2 := fv) (iv2 := pd_fu (pd_fu (pd_fu (pd_fu iv 37 (nI 0)) 38 (nI (gm_name cs (sA i0) (eA i0)))) 39 (nI 2)) 40 (nI ((gm_name cs (sA i0) (eA i0)) + 1))) (tl2 := tl) (ts := [20]) hMO (pd_kx.tr (pd_kx.tr (pd_kx.tr (pd_kx.tr (pd_kx.tr (pd_kx.tr (pd_kx.tr (pd_kq.kx (k2) hy0) (pd_kq.kx (k9) f3)) (pd_kq.kx (k22) f10)) (pd_kq.kx (k29) f23)) (pd_kq.kx (k37) f30)) (pd_kq.kx (k44) f38)) (pd_kq.kx (k55) f45)) (pd_kq.kx (k62) f56)) f63 (fun j hj => Or.inr ⟨fun z => by first | (simp at z; done) | (simp at z; omega), rfl⟩)), fun t9 ht9 => by rw [hp] at ht9; cases ht9⟩ (by decide) (by decide) d_p15m16_257
                · -- not taken: 252
                  refine lv_iconst (v := nI 1) hx hb d_p15m16_252 (by decide) ?_
                  refine lv_goto (tgt := 257) hx hb d_p15m16_253 (by decide) ?_
                  have hpt : gm_pt cs (gm_name cs (sA i0) (eA i0)) (eA i0) = some (2, gm_name cs (sA i0) (eA i0) + 1) := by unfold gm_pt; rw [if_neg (by omega), if_neg (by omega), if_neg (by omega), if_pos (by rw [← e72]; omega)]
                  have hp : gm_pat cs (sA i0) (eA i0) = some (0, gm_name cs (sA i0) (eA i0), 2, gm_name cs (sA i0) (eA i0) + 1) := by unfold gm_pat; rw [hph]; simp only [hpt]
                  refine W.eq (g2 := F0 m 257 ls [.int (pd_b true)]) rfl ?_
                  exact pd_zret (v := true) X w ⟨by rw [hp]; rfl, pd_kx.tr (pd_kx.tr (pd_kx.tr (pd_kx.tr (pd_kx.tr (pd_kx.tr (pd_kx.tr (pd_kq.kx (k2) hy0) (pd_kq.kx (k9) f3)) (pd_kq.kx (k22) f10)) (pd_kq.kx (k29) f23)) (pd_kq.kx (k37) f30)) (pd_kq.kx (k44) f38)) (pd_kq.kx (k55) f45)) (pd_kq.kx (k62) f56), (nI 0), (nI (gm_name cs (sA i0) (eA i0))), (nI 2), (nI ((gm_name cs (sA i0) (eA i0)) + 1)), (pd_MO.of (fv2 := fv) (iv2 := pd_fu (pd_fu (pd_fu (pd_fu iv 37 (nI 0)) 38 (nI (gm_name cs (sA i0) (eA i0)))) 39 (nI 2)) 40 (nI ((gm_name cs (sA i0) (eA i0)) + 1))) (tl2 := tl) (ts := [20]) hMO (pd_kx.tr (pd_kx.tr (pd_kx.tr (pd_kx.tr (pd_kx.tr (pd_kx.tr (pd_kx.tr (pd_kq.kx (k2) hy0) (pd_kq.kx (k9) f3)) (pd_kq.kx (k22) f10)) (pd_kq.kx (k29) f23)) (pd_kq.kx (k37) f30)) (pd_kq.kx (k44) f38)) (pd_kq.kx (k55) f45)) (pd_kq.kx (k62) f56)) f63 (fun j hj => Or.inr ⟨fun z => by first | (simp at z; done) | (simp at z; omega), rfl⟩)), fun t9 ht9 => by rw [hp] at ht9; cases ht9; exact ⟨rfl, rfl, rfl, rfl⟩⟩ (by decide) (by decide) d_p15m16_257
              · -- not taken: 210
                refine lv_iload_n hx hb d_p15m16_210 rfl (lv_at hl 0 rfl) ?_
                refine lv_iconst (v := nI 2) hx hb d_p15m16_211 (by decide) ?_
                refine pd_iadd hx hb d_p15m16_212 ?_
                refine lv_iload_n hx hb d_p15m16_213 rfl (lv_at hl 1 rfl) ?_
                refine pd_jne (tgt := 221) hx hb d_p15m16_214 (by decide) (by omega) (by omega) (fun q74 => ?_) (fun q74 => ?_)
                · -- taken: 221
                  refine lv_iconst (v := nI 2) hx hb d_p15m16_221 (by decide) ?_
                  refine pd_put (ty := .int) X w f45 hz_y rfl 39 (by decide) mT_1178 rfl rfl (by decide +kernel) rfl rfl (Nat.le_of_ble_eq_true rfl) d_p15m16_222 (fun H locs w => ?_)
                  have w : pd_w G s H locs (pd_up h43 y (20, .inr (10, [.ref (ad 0), .ref (ad 1), .ref (ad 2), .int (iv 3), .int (iv 4), .int (iv 5), .ref (ad 6), .ref (ad 7), .ref (ad 8), .ref (ad 9), .ref (ad 10), .ref (ad 11), .int (iv 12), .ref (ad 13), .ref (ad 14), .ref (ad 15), .ref (ad 16), .ref (ad 17), .ref (ad 18), .ref (ad 19), .int (iv 20), .ref (ad 21), .ref (ad 22), .ref (ad 23), .ref (ad 24), .ref (ad 25), .ref (ad 26), .ref (ad 27), .ref (ad 28), .int (iv 29), .ref (ad 30), .ref (ad 31), .int (iv 32), .int (iv 33), .int (iv 34), .int (iv 35), .long tl, .int (nI 0), .int (nI (gm_name cs (sA i0) (eA i0))), .int (nI 2), .int (nI (eA i0)), .ref (ad 41), .ref (ad 42), .int (iv 43)]))) := w
                  obtain ⟨h75, u78⟩ : ∃ z, z = pd_up h43 y (20, .inr (10, [.ref (ad 0), .ref (ad 1), .ref (ad 2), .int (iv 3), .int (iv 4), .int (iv 5), .ref (ad 6), .ref (ad 7), .ref (ad 8), .ref (ad 9), .ref (ad 10), .ref (ad 11), .int (iv 12), .ref (ad 13), .ref (ad 14), .ref (ad 15), .ref (ad 16), .ref (ad 17), .ref (ad 18), .ref (ad 19), .int (iv 20), .ref (ad 21), .ref (ad 22), .ref (ad 23), .ref (ad 24), .ref (ad 25), .ref (ad 26), .ref (ad 27), .ref (ad 28), .int (iv 29), .ref (ad 30), .ref (ad 31), .int (iv 32), .int (iv 33), .int (iv 34), .int (iv 35), .long tl, .int (nI 0), .int (nI (gm_name cs (sA i0) (eA i0))), .int (nI 2), .int (nI (eA i0)), .ref (ad 41), .ref (ad 42), .int (iv 43)])) := ⟨_, rfl⟩
                  rw [← u78] at w
                  have k76 : pd_kq y h43 h75 := by rw [u78]; exact pd_up_kq
                  have f77 : h75 y = some (20, .inr (10, [.ref (ad 0), .ref (ad 1), .ref (ad 2), .int (iv 3), .int (iv 4), .int (iv 5), .ref (ad 6), .ref (ad 7), .ref (ad 8), .ref (ad 9), .ref (ad 10), .ref (ad 11), .int (iv 12), .ref (ad 13), .ref (ad 14), .ref (ad 15), .ref (ad 16), .ref (ad 17), .ref (ad 18), .ref (ad 19), .int (iv 20), .ref (ad 21), .ref (ad 22), .ref (ad 23), .ref (ad 24), .ref (ad 25), .ref (ad 26), .ref (ad 27), .ref (ad 28), .int (iv 29), .ref (ad 30), .ref (ad 31), .int (iv 32), .int (iv 33), .int (iv 34), .int (iv 35), .long tl, .int (nI 0), .int (nI (gm_name cs (sA i0) (eA i0))), .int (nI 2), .int (nI (eA i0)), .ref (ad 41), .ref (ad 42), .int (iv 43)])) := by rw [u78]; exact pd_up_s _ _ _
                  have f79 := k76 _ _ (pd_ne f47 f45 (by simp)) f47
                  have f80 := k76 _ _ (pd_ne f48 f45 (by simp)) f48
                  have f81 := k76 _ _ (pd_ne f49 f45 (by simp)) f49
                  refine lv_aload_n hx hb d_p15m16_225 rfl (lv_at hl 2 rfl) ?_
                  refine lv_iload_n hx hb d_p15m16_226 rfl (lv_at hl 0 rfl) ?_
                  refine lv_iconst (v := nI 1) hx hb d_p15m16_227 (by decide) ?_
                  refine pd_iadd hx hb d_p15m16_228 ?_
                  refine pd_put (ty := .int) X w f77 hz_y rfl 40 (by decide) mT_1179 rfl rfl (by decide +kernel) rfl rfl (Nat.le_of_ble_eq_true rfl) d_p15m16_229 (fun H locs w => ?_)
                  have w : pd_w G s H locs (pd_up h75 y (20, .inr (10, [.ref (ad 0), .ref (ad 1), .ref (ad 2), .int (iv 3), .int (iv 4), .int (iv 5), .ref (ad 6), .ref (ad 7), .ref (ad 8), .ref (ad 9), .ref (ad 10), .ref (ad 11), .int (iv 12), .ref (ad 13), .ref (ad 14), .ref (ad 15), .ref (ad 16), .ref (ad 17), .ref (ad 18), .ref (ad 19), .int (iv 20), .ref (ad 21), .ref (ad 22), .ref (ad 23), .ref (ad 24), .ref (ad 25), .ref (ad 26), .ref (ad 27), .ref (ad 28), .int (iv 29), .ref (ad 30), .ref (ad 31), .int (iv 32), .int (iv 33), .int (iv 34), .int (iv 35), .long tl, .int (nI 0), .int (nI (gm_name cs (sA i0) (eA i0))), .int (nI 2), .int (nI ((gm_name cs (sA i0) (eA i0)) + 1)), .ref (ad 41), .ref (ad 42), .int (iv 43)]))) := w
                  obtain ⟨h82, u85⟩ : ∃ z, z = pd_up h75 y (20, .inr (10, [.ref (ad 0), .ref (ad 1), .ref (ad 2), .int (iv 3), .int (iv 4), .int (iv 5), .ref (ad 6), .ref (ad 7), .ref (ad 8), .ref (ad 9), .ref (ad 10), .ref (ad 11), .int (iv 12), .ref (ad 13), .ref (ad 14), .ref (ad 15), .ref (ad 16), .ref (ad 17), .ref (ad 18), .ref (ad 19), .int (iv 20), .ref (ad 21), .ref (ad 22), .ref (ad 23), .ref (ad 24), .ref (ad 25), .ref (ad 26), .ref (ad 27), .ref (ad 28), .int (iv 29), .ref (ad 30), .ref (ad 31), .int (iv 32), .int (iv 33), .int (iv 34), .int (iv 35), .long tl, .int (nI 0), .int (nI (gm_name cs (sA i0) (eA i0))), .int (nI 2), .int (nI ((gm_name cs (sA i0) (eA i0)) + 1)), .ref (ad 41), .ref (ad 42), .int (iv 43)])) := ⟨_, rfl⟩
                  rw [← u85] at w
                  have k83 : pd_kq y h75 h82 := by rw [u85]; exact pd_up_kq
                  have f84 : h82 y = some (20, .inr (10, [.ref (ad 0), .ref (ad 1), .ref (ad 2), .int (iv 3), .int (iv 4), .int (iv 5), .ref (ad 6), .ref (ad 7), .ref (ad 8), .ref (ad 9), .ref (ad 10), .ref (ad 11), .int (iv 12), .ref (ad 13), .ref (ad 14), .ref (ad 15), .ref (ad 16), .ref (ad 17), .ref (ad 18), .ref (ad 19), .int (iv 20), .ref (ad 21), .ref (ad 22), .ref (ad 23), .ref (ad 24), .ref (ad 25), .ref (ad 26), .ref (ad 27), .ref (ad 28), .int (iv 29), .ref (ad 30), .ref (ad 31), .int (iv 32), .int (iv 33), .int (iv 34), .int (iv 35), .long tl, .int (nI 0), .int (nI (gm_name cs (sA i0) (eA i0))), .int (nI 2), .int (nI ((gm_name cs (sA i0) (eA i0)) + 1)), .ref (ad 41), .ref (ad 42), .int (iv 43)])) := by rw [u85]; exact pd_up_s _ _ _
                  have f86 := k83 _ _ (pd_ne f79 f77 (by simp)) f79
                  have f87 := k83 _ _ (pd_ne f80 f77 (by simp)) f80
                  have f88 := k83 _ _ (pd_ne f81 f77 (by simp)) f81
                  refine lv_aload_n hx hb d_p15m16_232 rfl (lv_at hl 2 rfl) ?_
                  refine pd_get X w f84 rfl 39 (by decide) mT_1178 rfl rfl d_p15m16_233 ?_
                  refine lv_iconst (v := nI 1) hx hb d_p15m16_236 (by decide) ?_
                  refine pd_jeq (tgt := 252) hx hb d_p15m16_237 (by decide) (by decide) (by decide) (fun q => absurd q (by decide)) (fun _ => ?_)
                  refine lv_aload_n hx hb d_p15m16_240 rfl (lv_at hl 2 rfl) ?_
                  refine lv_iload_n hx hb d_p15m16_241 rfl (lv_at hl 0 rfl) ?_
                  refine lv_iconst (v := nI 1) hx hb d_p15m16_242 (by decide) ?_
                  refine pd_iadd hx hb d_p15m16_243 ?_
                  refine lv_iload_n hx hb d_p15m16_244 rfl (lv_at hl 1 rfl) ?_
                  refine pd_cV (a := y) (As := [.int (nI ((gm_name cs (sA i0) (eA i0)) + 1)), .int (nI (eA i0))]) (rest := []) X w f84 rfl (c_PolicyDeskModel_behindPart l G h82 (ad := ad) (fv := fv) (iv := pd_fu (pd_fu (pd_fu (pd_fu iv 37 (nI 0)) 38 (nI (gm_name cs (sA i0) (eA i0)))) 39 (nI 2)) 40 (nI ((gm_name cs (sA i0) (eA i0)) + 1))) (tl := tl) (pd_MO.of (fv2 := fv) (iv2 := pd_fu (pd_fu (pd_fu (pd_fu iv 37 (nI 0)) 38 (nI (gm_name cs (sA i0) (eA i0)))) 39 (nI 2)) 40 (nI ((gm_name cs (sA i0) (eA i0)) + 1))) (tl2 := tl) (ts := [20]) hMO (pd_kx.tr (pd_kx.tr (pd_kx.tr (pd_kx.tr (pd_kx.tr (pd_kx.tr (pd_kx.tr (pd_kq.kx (k2) hy0) (pd_kq.kx (k9) f3)) (pd_kq.kx (k22) f10)) (pd_kq.kx (k29) f23)) (pd_kq.kx (k37) f30)) (pd_kq.kx (k44) f38)) (pd_kq.kx (k76) f45)) (pd_kq.kx (k83) f77)) f84 (fun j hj => Or.inr ⟨fun z => by first | (simp at z; done) | (simp at z; omega), rfl⟩)) hL (by omega) (by omega)) ok_PolicyDeskModel_behindPart ⟨mT_1315, sT_19⟩ mT_1313 ⟨by decide, by decide⟩ rfl hl.1 rfl (Nat.le_of_ble_eq_true rfl) d_p15m16_245 ⟨by decide, by decide⟩ (fun r90 h91 H locs hp92 w => ?_)
                  refine W.widen (k := 0) (n := 0) (by decide) (by decide) ?_
                  obtain ⟨e93, rfl⟩ := hp92
                  have hpl := gm_part_le (cs := cs) (x := gm_name cs (sA i0) (eA i0) + 1) (to := eA i0) (by omega)
                  refine lv_iload_n hx hb d_p15m16_248 rfl (lv_at hl 1 rfl) ?_
                  refine pd_jne (tgt := 256) hx hb d_p15m16_249 (by decide) (by omega) (by omega) (fun q94 => ?_) (fun q94 => ?_)
                  · -- taken: 256
                    refine lv_iconst (v := nI 0) hx hb d_p15m16_256 (by decide) ?_
                    have hpt : gm_pt cs (gm_name cs (sA i0) (eA i0)) (eA i0) = none := by unfold gm_pt; rw [if_neg (by omega), if_neg (by omega), if_neg (by omega), if_neg (by rw [← e93]; omega)]
                    have hp : gm_pat cs (sA i0) (eA i0) = none := by unfold gm_pat; rw [hph]; simp only [hpt]
                    refine W.eq (g2 := F0 m 257 ls [.int (pd_b false)]) rfl ?_
                    exact pd_zret (v := false) X w ⟨by rw [hp]; rfl, pd_kx.tr (pd_kx.tr (pd_kx.tr (pd_kx.tr (pd_kx.tr (pd_kx.tr (pd_kx.tr (pd_kq.kx (k2) hy0) (pd_kq.kx (k9) f3)) (pd_kq.kx (k22) f10)) (pd_kq.kx (k29) f23)) (pd_kq.kx (k37) f30)) (pd_kq.kx (k44) f38)) (pd_kq.kx (k76) f45)) (pd_kq.kx (k83) f77), (nI 0), (nI (gm_name cs (sA i0) (eA i0))), (nI 2), (nI ((gm_name cs (sA i0) (eA i0)) + 1)), (pd_MO.of (fv2 := fv) (iv2 := pd_fu (pd_fu (pd_fu (pd_fu iv 37 (nI 0)) 38 (nI (gm_name cs (sA i0) (eA i0)))) 39 (nI 2)) 40 (nI ((gm_name cs (sA i0) (eA i0)) + 1))) (tl2 := tl) (ts := [20]) hMO (pd_kx.tr (pd_kx.tr (pd_kx.tr (pd_kx.tr (pd_kx.tr (pd_kx.tr (pd_kx.tr (pd_kq.kx (k2) hy0) (pd_kq.kx (k9) f3)) (pd_kq.kx (k22) f10)) (pd_kq.kx (k29) f23)) (pd_kq.kx (k37) f30)) (pd_kq.kx (k44) f38)) (pd_kq.kx (k76) f45)) (pd_kq.kx (k83) f77)) f84 (fun j hj => Or.inr ⟨fun z => by first | (simp at z; done) | (simp at z; omega), rfl⟩)), fun t9 ht9 => by rw [hp] at ht9; cases ht9⟩ (by decide) (by decide) d_p15m16_257
                  · -- not taken: 252
                    refine lv_iconst (v := nI 1) hx hb d_p15m16_252 (by decide) ?_
                    refine lv_goto (tgt := 257) hx hb d_p15m16_253 (by decide) ?_
                    have hpt : gm_pt cs (gm_name cs (sA i0) (eA i0)) (eA i0) = some (2, gm_name cs (sA i0) (eA i0) + 1) := by unfold gm_pt; rw [if_neg (by omega), if_neg (by omega), if_neg (by omega), if_pos (by rw [← e93]; omega)]
                    have hp : gm_pat cs (sA i0) (eA i0) = some (0, gm_name cs (sA i0) (eA i0), 2, gm_name cs (sA i0) (eA i0) + 1) := by unfold gm_pat; rw [hph]; simp only [hpt]
                    refine W.eq (g2 := F0 m 257 ls [.int (pd_b true)]) rfl ?_
                    exact pd_zret (v := true) X w ⟨by rw [hp]; rfl, pd_kx.tr (pd_kx.tr (pd_kx.tr (pd_kx.tr (pd_kx.tr (pd_kx.tr (pd_kx.tr (pd_kq.kx (k2) hy0) (pd_kq.kx (k9) f3)) (pd_kq.kx (k22) f10)) (pd_kq.kx (k29) f23)) (pd_kq.kx (k37) f30)) (pd_kq.kx (k44) f38)) (pd_kq.kx (k76) f45)) (pd_kq.kx (k83) f77), (nI 0), (nI (gm_name cs (sA i0) (eA i0))), (nI 2), (nI ((gm_name cs (sA i0) (eA i0)) + 1)), (pd_MO.of (fv2 := fv) (iv2 := pd_fu (pd_fu (pd_fu (pd_fu iv 37 (nI 0)) 38 (nI (gm_name cs (sA i0) (eA i0)))) 39 (nI 2)) 40 (nI ((gm_name cs (sA i0) (eA i0)) + 1))) (tl2 := tl) (ts := [20]) hMO (pd_kx.tr (pd_kx.tr (pd_kx.tr (pd_kx.tr (pd_kx.tr (pd_kx.tr (pd_kx.tr (pd_kq.kx (k2) hy0) (pd_kq.kx (k9) f3)) (pd_kq.kx (k22) f10)) (pd_kq.kx (k29) f23)) (pd_kq.kx (k37) f30)) (pd_kq.kx (k44) f38)) (pd_kq.kx (k76) f45)) (pd_kq.kx (k83) f77)) f84 (fun j hj => Or.inr ⟨fun z => by first | (simp at z; done) | (simp at z; omega), rfl⟩)), fun t9 ht9 => by rw [hp] at ht9; cases ht9; exact ⟨rfl, rfl, rfl, rfl⟩⟩ (by decide) (by decide) d_p15m16_257
                · -- not taken: 217
                  refine lv_iconst (v := nI 1) hx hb d_p15m16_217 (by decide) ?_
                  refine lv_goto (tgt := 222) hx hb d_p15m16_218 (by decide) ?_
                  refine pd_put (ty := .int) X w f45 hz_y rfl 39 (by decide) mT_1178 rfl rfl (by decide +kernel) rfl rfl (Nat.le_of_ble_eq_true rfl) d_p15m16_222 (fun H locs w => ?_)
                  have w : pd_w G s H locs (pd_up h43 y (20, .inr (10, [.ref (ad 0), .ref (ad 1), .ref (ad 2), .int (iv 3), .int (iv 4), .int (iv 5), .ref (ad 6), .ref (ad 7), .ref (ad 8), .ref (ad 9), .ref (ad 10), .ref (ad 11), .int (iv 12), .ref (ad 13), .ref (ad 14), .ref (ad 15), .ref (ad 16), .ref (ad 17), .ref (ad 18), .ref (ad 19), .int (iv 20), .ref (ad 21), .ref (ad 22), .ref (ad 23), .ref (ad 24), .ref (ad 25), .ref (ad 26), .ref (ad 27), .ref (ad 28), .int (iv 29), .ref (ad 30), .ref (ad 31), .int (iv 32), .int (iv 33), .int (iv 34), .int (iv 35), .long tl, .int (nI 0), .int (nI (gm_name cs (sA i0) (eA i0))), .int (nI 1), .int (nI (eA i0)), .ref (ad 41), .ref (ad 42), .int (iv 43)]))) := w
                  obtain ⟨h95, u98⟩ : ∃ z, z = pd_up h43 y (20, .inr (10, [.ref (ad 0), .ref (ad 1), .ref (ad 2), .int (iv 3), .int (iv 4), .int (iv 5), .ref (ad 6), .ref (ad 7), .ref (ad 8), .ref (ad 9), .ref (ad 10), .ref (ad 11), .int (iv 12), .ref (ad 13), .ref (ad 14), .ref (ad 15), .ref (ad 16), .ref (ad 17), .ref (ad 18), .ref (ad 19), .int (iv 20), .ref (ad 21), .ref (ad 22), .ref (ad 23), .ref (ad 24), .ref (ad 25), .ref (ad 26), .ref (ad 27), .ref (ad 28), .int (iv 29), .ref (ad 30), .ref (ad 31), .int (iv 32), .int (iv 33), .int (iv 34), .int (iv 35), .long tl, .int (nI 0), .int (nI (gm_name cs (sA i0) (eA i0))), .int (nI 1), .int (nI (eA i0)), .ref (ad 41), .ref (ad 42), .int (iv 43)])) := ⟨_, rfl⟩
                  rw [← u98] at w
                  have k96 : pd_kq y h43 h95 := by rw [u98]; exact pd_up_kq
                  have f97 : h95 y = some (20, .inr (10, [.ref (ad 0), .ref (ad 1), .ref (ad 2), .int (iv 3), .int (iv 4), .int (iv 5), .ref (ad 6), .ref (ad 7), .ref (ad 8), .ref (ad 9), .ref (ad 10), .ref (ad 11), .int (iv 12), .ref (ad 13), .ref (ad 14), .ref (ad 15), .ref (ad 16), .ref (ad 17), .ref (ad 18), .ref (ad 19), .int (iv 20), .ref (ad 21), .ref (ad 22), .ref (ad 23), .ref (ad 24), .ref (ad 25), .ref (ad 26), .ref (ad 27), .ref (ad 28), .int (iv 29), .ref (ad 30), .ref (ad 31), .int (iv 32), .int (iv 33), .int (iv 34), .int (iv 35), .long tl, .int (nI 0), .int (nI (gm_name cs (sA i0) (eA i0))), .int (nI 1), .int (nI (eA i0)), .ref (ad 41), .ref (ad 42), .int (iv 43)])) := by rw [u98]; exact pd_up_s _ _ _
                  have f99 := k96 _ _ (pd_ne f47 f45 (by simp)) f47
                  have f100 := k96 _ _ (pd_ne f48 f45 (by simp)) f48
                  have f101 := k96 _ _ (pd_ne f49 f45 (by simp)) f49
                  refine lv_aload_n hx hb d_p15m16_225 rfl (lv_at hl 2 rfl) ?_
                  refine lv_iload_n hx hb d_p15m16_226 rfl (lv_at hl 0 rfl) ?_
                  refine lv_iconst (v := nI 1) hx hb d_p15m16_227 (by decide) ?_
                  refine pd_iadd hx hb d_p15m16_228 ?_
                  refine pd_put (ty := .int) X w f97 hz_y rfl 40 (by decide) mT_1179 rfl rfl (by decide +kernel) rfl rfl (Nat.le_of_ble_eq_true rfl) d_p15m16_229 (fun H locs w => ?_)
                  have w : pd_w G s H locs (pd_up h95 y (20, .inr (10, [.ref (ad 0), .ref (ad 1), .ref (ad 2), .int (iv 3), .int (iv 4), .int (iv 5), .ref (ad 6), .ref (ad 7), .ref (ad 8), .ref (ad 9), .ref (ad 10), .ref (ad 11), .int (iv 12), .ref (ad 13), .ref (ad 14), .ref (ad 15), .ref (ad 16), .ref (ad 17), .ref (ad 18), .ref (ad 19), .int (iv 20), .ref (ad 21), .ref (ad 22), .ref (ad 23), .ref (ad 24), .ref (ad 25), .ref (ad 26), .ref (ad 27), .ref (ad 28), .int (iv 29), .ref (ad 30), .ref (ad 31), .int (iv 32), .int (iv 33), .int (iv 34), .int (iv 35), .long tl, .int (nI 0), .int (nI (gm_name cs (sA i0) (eA i0))), .int (nI 1), .int (nI ((gm_name cs (sA i0) (eA i0)) + 1)), .ref (ad 41), .ref (ad 42), .int (iv 43)]))) := w
                  obtain ⟨h102, u105⟩ : ∃ z, z = pd_up h95 y (20, .inr (10, [.ref (ad 0), .ref (ad 1), .ref (ad 2), .int (iv 3), .int (iv 4), .int (iv 5), .ref (ad 6), .ref (ad 7), .ref (ad 8), .ref (ad 9), .ref (ad 10), .ref (ad 11), .int (iv 12), .ref (ad 13), .ref (ad 14), .ref (ad 15), .ref (ad 16), .ref (ad 17), .ref (ad 18), .ref (ad 19), .int (iv 20), .ref (ad 21), .ref (ad 22), .ref (ad 23), .ref (ad 24), .ref (ad 25), .ref (ad 26), .ref (ad 27), .ref (ad 28), .int (iv 29), .ref (ad 30), .ref (ad 31), .int (iv 32), .int (iv 33), .int (iv 34), .int (iv 35), .long tl, .int (nI 0), .int (nI (gm_name cs (sA i0) (eA i0))), .int (nI 1), .int (nI ((gm_name cs (sA i0) (eA i0)) + 1)), .ref (ad 41), .ref (ad 42), .int (iv 43)])) := ⟨_, rfl⟩
                  rw [← u105] at w
                  have k103 : pd_kq y h95 h102 := by rw [u105]; exact pd_up_kq
                  have f104 : h102 y = some (20, .inr (10, [.ref (ad 0), .ref (ad 1), .ref (ad 2), .int (iv 3), .int (iv 4), .int (iv 5), .ref (ad 6), .ref (ad 7), .ref (ad 8), .ref (ad 9), .ref (ad 10), .ref (ad 11), .int (iv 12), .ref (ad 13), .ref (ad 14), .ref (ad 15), .ref (ad 16), .ref (ad 17), .ref (ad 18), .ref (ad 19), .int (iv 20), .ref (ad 21), .ref (ad 22), .ref (ad 23), .ref (ad 24), .ref (ad 25), .ref (ad 26), .ref (ad 27), .ref (ad 28), .int (iv 29), .ref (ad 30), .ref (ad 31), .int (iv 32), .int (iv 33), .int (iv 34), .int (iv 35), .long tl, .int (nI 0), .int (nI (gm_name cs (sA i0) (eA i0))), .int (nI 1), .int (nI ((gm_name cs (sA i0) (eA i0)) + 1)), .ref (ad 41), .ref (ad 42), .int (iv 43)])) := by rw [u105]; exact pd_up_s _ _ _
                  have f106 := k103 _ _ (pd_ne f99 f97 (by simp)) f99
                  have f107 := k103 _ _ (pd_ne f100 f97 (by simp)) f100
                  have f108 := k103 _ _ (pd_ne f101 f97 (by simp)) f101
                  refine lv_aload_n hx hb d_p15m16_232 rfl (lv_at hl 2 rfl) ?_
                  refine pd_get X w f104 rfl 39 (by decide) mT_1178 rfl rfl d_p15m16_233 ?_
                  refine lv_iconst (v := nI 1) hx hb d_p15m16_236 (by decide) ?_
                  refine pd_jeq (tgt := 252) hx hb d_p15m16_237 (by decide) (by decide) (by decide) (fun _ => ?_) (fun q => absurd q (by decide))
                  refine lv_iconst (v := nI 1) hx hb d_p15m16_252 (by decide) ?_
                  refine lv_goto (tgt := 257) hx hb d_p15m16_253 (by decide) ?_
                  have hpt : gm_pt cs (gm_name cs (sA i0) (eA i0)) (eA i0) = some (1, gm_name cs (sA i0) (eA i0) + 1) := by unfold gm_pt; rw [if_neg (by omega), if_neg (by omega), if_pos (by omega)]
                  have hp : gm_pat cs (sA i0) (eA i0) = some (0, gm_name cs (sA i0) (eA i0), 1, gm_name cs (sA i0) (eA i0) + 1) := by unfold gm_pat; rw [hph]; simp only [hpt]
                  refine W.eq (g2 := F0 m 257 ls [.int (pd_b true)]) rfl ?_
                  exact pd_zret (v := true) X w ⟨by rw [hp]; rfl, pd_kx.tr (pd_kx.tr (pd_kx.tr (pd_kx.tr (pd_kx.tr (pd_kx.tr (pd_kx.tr (pd_kq.kx (k2) hy0) (pd_kq.kx (k9) f3)) (pd_kq.kx (k22) f10)) (pd_kq.kx (k29) f23)) (pd_kq.kx (k37) f30)) (pd_kq.kx (k44) f38)) (pd_kq.kx (k96) f45)) (pd_kq.kx (k103) f97), (nI 0), (nI (gm_name cs (sA i0) (eA i0))), (nI 1), (nI ((gm_name cs (sA i0) (eA i0)) + 1)), (pd_MO.of (fv2 := fv) (iv2 := pd_fu (pd_fu (pd_fu (pd_fu iv 37 (nI 0)) 38 (nI (gm_name cs (sA i0) (eA i0)))) 39 (nI 1)) 40 (nI ((gm_name cs (sA i0) (eA i0)) + 1))) (tl2 := tl) (ts := [20]) hMO (pd_kx.tr (pd_kx.tr (pd_kx.tr (pd_kx.tr (pd_kx.tr (pd_kx.tr (pd_kx.tr (pd_kq.kx (k2) hy0) (pd_kq.kx (k9) f3)) (pd_kq.kx (k22) f10)) (pd_kq.kx (k29) f23)) (pd_kq.kx (k37) f30)) (pd_kq.kx (k44) f38)) (pd_kq.kx (k96) f45)) (pd_kq.kx (k103) f97)) f104 (fun j hj => Or.inr ⟨fun z => by first | (simp at z; done) | (simp at z; omega), rfl⟩)), fun t9 ht9 => by rw [hp] at ht9; cases ht9; exact ⟨rfl, rfl, rfl, rfl⟩⟩ (by decide) (by decide) d_p15m16_257
            · -- not taken: 194
              refine lv_iconst (v := nI 0) hx hb d_p15m16_194 (by decide) ?_
              have hpt : gm_pt cs (gm_name cs (sA i0) (eA i0)) (eA i0) = none := by unfold gm_pt; rw [if_neg (by omega), if_pos (by omega)]
              have hp : gm_pat cs (sA i0) (eA i0) = none := by unfold gm_pat; rw [hph]; simp only [hpt]
              refine W.eq (g2 := F0 m 195 ls [.int (pd_b false)]) rfl ?_
              exact pd_zret (v := false) X w ⟨by rw [hp]; rfl, pd_kx.tr (pd_kx.tr (pd_kx.tr (pd_kx.tr (pd_kx.tr (pd_kq.kx (k2) hy0) (pd_kq.kx (k9) f3)) (pd_kq.kx (k22) f10)) (pd_kq.kx (k29) f23)) (pd_kq.kx (k37) f30)) (pd_kq.kx (k44) f38), (nI 0), (nI (gm_name cs (sA i0) (eA i0))), (nI 0), (nI (eA i0)), (pd_MO.of (fv2 := fv) (iv2 := pd_fu (pd_fu (pd_fu (pd_fu iv 37 (nI 0)) 38 (nI (gm_name cs (sA i0) (eA i0)))) 39 (nI 0)) 40 (nI (eA i0))) (tl2 := tl) (ts := [20]) hMO (pd_kx.tr (pd_kx.tr (pd_kx.tr (pd_kx.tr (pd_kx.tr (pd_kq.kx (k2) hy0) (pd_kq.kx (k9) f3)) (pd_kq.kx (k22) f10)) (pd_kq.kx (k29) f23)) (pd_kq.kx (k37) f30)) (pd_kq.kx (k44) f38)) f45 (fun j hj => Or.inr ⟨fun z => by first | (simp at z; done) | (simp at z; omega), rfl⟩)), fun t9 ht9 => by rw [hp] at ht9; cases ht9⟩ (by decide) (by decide) d_p15m16_195
        · -- not taken: 174
          refine lv_iconst (v := nI 1) hx hb d_p15m16_174 (by decide) ?_
          have hpt : gm_pt cs (gm_name cs (sA i0) (eA i0)) (eA i0) = some (0, eA i0) := by unfold gm_pt; rw [if_pos (by omega)]
          have hp : gm_pat cs (sA i0) (eA i0) = some (0, gm_name cs (sA i0) (eA i0), 0, eA i0) := by unfold gm_pat; rw [hph]; simp only [hpt]
          refine W.eq (g2 := F0 m 175 ls [.int (pd_b true)]) rfl ?_
          exact pd_zret (v := true) X w ⟨by rw [hp]; rfl, pd_kx.tr (pd_kx.tr (pd_kx.tr (pd_kx.tr (pd_kx.tr (pd_kq.kx (k2) hy0) (pd_kq.kx (k9) f3)) (pd_kq.kx (k22) f10)) (pd_kq.kx (k29) f23)) (pd_kq.kx (k37) f30)) (pd_kq.kx (k44) f38), (nI 0), (nI (gm_name cs (sA i0) (eA i0))), (nI 0), (nI (eA i0)), (pd_MO.of (fv2 := fv) (iv2 := pd_fu (pd_fu (pd_fu (pd_fu iv 37 (nI 0)) 38 (nI (gm_name cs (sA i0) (eA i0)))) 39 (nI 0)) 40 (nI (eA i0))) (tl2 := tl) (ts := [20]) hMO (pd_kx.tr (pd_kx.tr (pd_kx.tr (pd_kx.tr (pd_kx.tr (pd_kq.kx (k2) hy0) (pd_kq.kx (k9) f3)) (pd_kq.kx (k22) f10)) (pd_kq.kx (k29) f23)) (pd_kq.kx (k37) f30)) (pd_kq.kx (k44) f38)) f45 (fun j hj => Or.inr ⟨fun z => by first | (simp at z; done) | (simp at z; omega), rfl⟩)), fun t9 ht9 => by rw [hp] at ht9; cases ht9; exact ⟨rfl, rfl, rfl, rfl⟩⟩ (by decide) (by decide) d_p15m16_175
      · -- not taken: 97
        refine lv_aload_n hx hb d_p15m16_97 rfl (lv_at hl 2 rfl) ?_
        refine pd_get X w f30 rfl 0 (by decide) mT_1139 rfl rfl d_p15m16_98 ?_
        refine lv_iload_n hx hb d_p15m16_101 rfl (lv_at hl 0 rfl) ?_
        refine pd_iald X w f32 (by omega) (by omega) d_p15m16_102 ?_
        refine pd_top (v' := .int (nI (cs.getD (gm_name cs (sA i0) (eA i0)) 0))) (congrArg Value.int (hln _ (by omega))) ?_
        have := tx_lt hlc (gm_name cs (sA i0) (eA i0))
        refine lv_bipush (v := nI 47) hx hb d_p15m16_103 (by decide) ?_
        refine pd_jne (tgt := 159) hx hb d_p15m16_105 (by decide) (by omega) (by omega) (fun q110 => ?_) (fun q110 => ?_)
        · -- taken: 159
          have hph : gm_ph cs (sA i0) (eA i0) = some (0, gm_name cs (sA i0) (eA i0), gm_name cs (sA i0) (eA i0)) := by unfold gm_ph; rw [if_neg (by omega), if_neg (by omega), if_neg (by omega)]
          refine lv_aload_n hx hb d_p15m16_159 rfl (lv_at hl 2 rfl) ?_
          refine lv_iconst (v := nI 0) hx hb d_p15m16_160 (by decide) ?_
          refine pd_put (ty := .int) X w f30 hz_y rfl 39 (by decide) mT_1178 rfl rfl (by decide +kernel) rfl rfl (Nat.le_of_ble_eq_true rfl) d_p15m16_161 (fun H locs w => ?_)
          have w : pd_w G s H locs (pd_up h28 y (20, .inr (10, [.ref (ad 0), .ref (ad 1), .ref (ad 2), .int (iv 3), .int (iv 4), .int (iv 5), .ref (ad 6), .ref (ad 7), .ref (ad 8), .ref (ad 9), .ref (ad 10), .ref (ad 11), .int (iv 12), .ref (ad 13), .ref (ad 14), .ref (ad 15), .ref (ad 16), .ref (ad 17), .ref (ad 18), .ref (ad 19), .int (iv 20), .ref (ad 21), .ref (ad 22), .ref (ad 23), .ref (ad 24), .ref (ad 25), .ref (ad 26), .ref (ad 27), .ref (ad 28), .int (iv 29), .ref (ad 30), .ref (ad 31), .int (iv 32), .int (iv 33), .int (iv 34), .int (iv 35), .long tl, .int (nI 0), .int (nI (gm_name cs (sA i0) (eA i0))), .int (nI 0), .int (iv 40), .ref (ad 41), .ref (ad 42), .int (iv 43)]))) := w
          obtain ⟨h111, u114⟩ : ∃ z, z = pd_up h28 y (20, .inr (10, [.ref (ad 0), .ref (ad 1), .ref (ad 2), .int (iv 3), .int (iv 4), .int (iv 5), .ref (ad 6), .ref (ad 7), .ref (ad 8), .ref (ad 9), .ref (ad 10), .ref (ad 11), .int (iv 12), .ref (ad 13), .ref (ad 14), .ref (ad 15), .ref (ad 16), .ref (ad 17), .ref (ad 18), .ref (ad 19), .int (iv 20), .ref (ad 21), .ref (ad 22), .ref (ad 23), .ref (ad 24), .ref (ad 25), .ref (ad 26), .ref (ad 27), .ref (ad 28), .int (iv 29), .ref (ad 30), .ref (ad 31), .int (iv 32), .int (iv 33), .int (iv 34), .int (iv 35), .long tl, .int (nI 0), .int (nI (gm_name cs (sA i0) (eA i0))), .int (nI 0), .int (iv 40), .ref (ad 41), .ref (ad 42), .int (iv 43)])) := ⟨_, rfl⟩
          rw [← u114] at w
          have k112 : pd_kq y h28 h111 := by rw [u114]; exact pd_up_kq
          have f113 : h111 y = some (20, .inr (10, [.ref (ad 0), .ref (ad 1), .ref (ad 2), .int (iv 3), .int (iv 4), .int (iv 5), .ref (ad 6), .ref (ad 7), .ref (ad 8), .ref (ad 9), .ref (ad 10), .ref (ad 11), .int (iv 12), .ref (ad 13), .ref (ad 14), .ref (ad 15), .ref (ad 16), .ref (ad 17), .ref (ad 18), .ref (ad 19), .int (iv 20), .ref (ad 21), .ref (ad 22), .ref (ad 23), .ref (ad 24), .ref (ad 25), .ref (ad 26), .ref (ad 27), .ref (ad 28), .int (iv 29), .ref (ad 30), .ref (ad 31), .int (iv 32), .int (iv 33), .int (iv 34), .int (iv 35), .long tl, .int (nI 0), .int (nI (gm_name cs (sA i0) (eA i0))), .int (nI 0), .int (iv 40), .ref (ad 41), .ref (ad 42), .int (iv 43)])) := by rw [u114]; exact pd_up_s _ _ _
          have f115 := k112 _ _ (pd_ne f32 f30 (by simp)) f32
          have f116 := k112 _ _ (pd_ne f33 f30 (by simp)) f33
          have f117 := k112 _ _ (pd_ne f34 f30 (by simp)) f34
          refine lv_aload_n hx hb d_p15m16_164 rfl (lv_at hl 2 rfl) ?_
          refine lv_iload_n hx hb d_p15m16_165 rfl (lv_at hl 1 rfl) ?_
          refine pd_put (ty := .int) X w f113 hz_y rfl 40 (by decide) mT_1179 rfl rfl (by decide +kernel) rfl rfl (Nat.le_of_ble_eq_true rfl) d_p15m16_166 (fun H locs w => ?_)
          have w : pd_w G s H locs (pd_up h111 y (20, .inr (10, [.ref (ad 0), .ref (ad 1), .ref (ad 2), .int (iv 3), .int (iv 4), .int (iv 5), .ref (ad 6), .ref (ad 7), .ref (ad 8), .ref (ad 9), .ref (ad 10), .ref (ad 11), .int (iv 12), .ref (ad 13), .ref (ad 14), .ref (ad 15), .ref (ad 16), .ref (ad 17), .ref (ad 18), .ref (ad 19), .int (iv 20), .ref (ad 21), .ref (ad 22), .ref (ad 23), .ref (ad 24), .ref (ad 25), .ref (ad 26), .ref (ad 27), .ref (ad 28), .int (iv 29), .ref (ad 30), .ref (ad 31), .int (iv 32), .int (iv 33), .int (iv 34), .int (iv 35), .long tl, .int (nI 0), .int (nI (gm_name cs (sA i0) (eA i0))), .int (nI 0), .int (nI (eA i0)), .ref (ad 41), .ref (ad 42), .int (iv 43)]))) := w
          obtain ⟨h118, u121⟩ : ∃ z, z = pd_up h111 y (20, .inr (10, [.ref (ad 0), .ref (ad 1), .ref (ad 2), .int (iv 3), .int (iv 4), .int (iv 5), .ref (ad 6), .ref (ad 7), .ref (ad 8), .ref (ad 9), .ref (ad 10), .ref (ad 11), .int (iv 12), .ref (ad 13), .ref (ad 14), .ref (ad 15), .ref (ad 16), .ref (ad 17), .ref (ad 18), .ref (ad 19), .int (iv 20), .ref (ad 21), .ref (ad 22), .ref (ad 23), .ref (ad 24), .ref (ad 25), .ref (ad 26), .ref (ad 27), .ref (ad 28), .int (iv 29), .ref (ad 30), .ref (ad 31), .int (iv 32), .int (iv 33), .int (iv 34), .int (iv 35), .long tl, .int (nI 0), .int (nI (gm_name cs (sA i0) (eA i0))), .int (nI 0), .int (nI (eA i0)), .ref (ad 41), .ref (ad 42), .int (iv 43)])) := ⟨_, rfl⟩
          rw [← u121] at w
          have k119 : pd_kq y h111 h118 := by rw [u121]; exact pd_up_kq
          have f120 : h118 y = some (20, .inr (10, [.ref (ad 0), .ref (ad 1), .ref (ad 2), .int (iv 3), .int (iv 4), .int (iv 5), .ref (ad 6), .ref (ad 7), .ref (ad 8), .ref (ad 9), .ref (ad 10), .ref (ad 11), .int (iv 12), .ref (ad 13), .ref (ad 14), .ref (ad 15), .ref (ad 16), .ref (ad 17), .ref (ad 18), .ref (ad 19), .int (iv 20), .ref (ad 21), .ref (ad 22), .ref (ad 23), .ref (ad 24), .ref (ad 25), .ref (ad 26), .ref (ad 27), .ref (ad 28), .int (iv 29), .ref (ad 30), .ref (ad 31), .int (iv 32), .int (iv 33), .int (iv 34), .int (iv 35), .long tl, .int (nI 0), .int (nI (gm_name cs (sA i0) (eA i0))), .int (nI 0), .int (nI (eA i0)), .ref (ad 41), .ref (ad 42), .int (iv 43)])) := by rw [u121]; exact pd_up_s _ _ _
          have f122 := k119 _ _ (pd_ne f115 f113 (by simp)) f115
          have f123 := k119 _ _ (pd_ne f116 f113 (by simp)) f116
          have f124 := k119 _ _ (pd_ne f117 f113 (by simp)) f117
          refine lv_iload_n hx hb d_p15m16_169 rfl (lv_at hl 0 rfl) ?_
          refine lv_iload_n hx hb d_p15m16_170 rfl (lv_at hl 1 rfl) ?_
          refine pd_jne (tgt := 176) hx hb d_p15m16_171 (by decide) (by omega) (by omega) (fun q125 => ?_) (fun q125 => ?_)
          · -- taken: 176
            refine lv_aload_n hx hb d_p15m16_176 rfl (lv_at hl 2 rfl) ?_
            refine pd_get X w f120 rfl 0 (by decide) mT_1139 rfl rfl d_p15m16_177 ?_
            refine lv_iload_n hx hb d_p15m16_180 rfl (lv_at hl 0 rfl) ?_
            refine pd_iald X w f122 (by omega) (by omega) d_p15m16_181 ?_
            refine pd_top (v' := .int (nI (cs.getD (gm_name cs (sA i0) (eA i0)) 0))) (congrArg Value.int (hln _ (by omega))) ?_
            have := tx_lt hlc (gm_name cs (sA i0) (eA i0))
            refine lv_bipush (v := nI 46) hx hb d_p15m16_182 (by decide) ?_
            refine pd_jne (tgt := 194) hx hb d_p15m16_184 (by decide) (by omega) (by omega) (fun q126 => ?_) (fun q126 => ?_)
            · -- taken: 194
              refine lv_iconst (v := nI 0) hx hb d_p15m16_194 (by decide) ?_
              have hpt : gm_pt cs (gm_name cs (sA i0) (eA i0)) (eA i0) = none := by unfold gm_pt; rw [if_neg (by omega), if_pos (by omega)]
              have hp : gm_pat cs (sA i0) (eA i0) = none := by unfold gm_pat; rw [hph]; simp only [hpt]
              refine W.eq (g2 := F0 m 195 ls [.int (pd_b false)]) rfl ?_
              exact pd_zret (v := false) X w ⟨by rw [hp]; rfl, pd_kx.tr (pd_kx.tr (pd_kx.tr (pd_kx.tr (pd_kx.tr (pd_kq.kx (k2) hy0) (pd_kq.kx (k9) f3)) (pd_kq.kx (k22) f10)) (pd_kq.kx (k29) f23)) (pd_kq.kx (k112) f30)) (pd_kq.kx (k119) f113), (nI 0), (nI (gm_name cs (sA i0) (eA i0))), (nI 0), (nI (eA i0)), (pd_MO.of (fv2 := fv) (iv2 := pd_fu (pd_fu (pd_fu (pd_fu iv 37 (nI 0)) 38 (nI (gm_name cs (sA i0) (eA i0)))) 39 (nI 0)) 40 (nI (eA i0))) (tl2 := tl) (ts := [20]) hMO (pd_kx.tr (pd_kx.tr (pd_kx.tr (pd_kx.tr (pd_kx.tr (pd_kq.kx (k2) hy0) (pd_kq.kx (k9) f3)) (pd_kq.kx (k22) f10)) (pd_kq.kx (k29) f23)) (pd_kq.kx (k112) f30)) (pd_kq.kx (k119) f113)) f120 (fun j hj => Or.inr ⟨fun z => by first | (simp at z; done) | (simp at z; omega), rfl⟩)), fun t9 ht9 => by rw [hp] at ht9; cases ht9⟩ (by decide) (by decide) d_p15m16_195
            · -- not taken: 187
              refine lv_iload_n hx hb d_p15m16_187 rfl (lv_at hl 0 rfl) ?_
              refine lv_iconst (v := nI 1) hx hb d_p15m16_188 (by decide) ?_
              refine pd_iadd hx hb d_p15m16_189 ?_
              refine lv_iload_n hx hb d_p15m16_190 rfl (lv_at hl 1 rfl) ?_
              refine pd_jne (tgt := 196) hx hb d_p15m16_191 (by decide) (by omega) (by omega) (fun q127 => ?_) (fun q127 => ?_)
              · -- taken: 196
                refine lv_aload_n hx hb d_p15m16_196 rfl (lv_at hl 2 rfl) ?_
                refine lv_aload_n hx hb d_p15m16_197 rfl (lv_at hl 2 rfl) ?_
                refine pd_get X w f120 rfl 0 (by decide) mT_1139 rfl rfl d_p15m16_198 ?_
                refine lv_iload_n hx hb d_p15m16_201 rfl (lv_at hl 0 rfl) ?_
                refine lv_iconst (v := nI 1) hx hb d_p15m16_202 (by decide) ?_
                refine pd_iadd hx hb d_p15m16_203 ?_
                refine pd_iald X w f122 (by omega) (by omega) d_p15m16_204 ?_
                refine pd_top (v' := .int (nI (cs.getD ((gm_name cs (sA i0) (eA i0)) + 1) 0))) (congrArg Value.int (hln _ (by omega))) ?_
                have := tx_lt hlc ((gm_name cs (sA i0) (eA i0)) + 1)
                refine lv_bipush (v := nI 42) hx hb d_p15m16_205 (by decide) ?_
                refine pd_jne (tgt := 221) hx hb d_p15m16_207 (by decide) (by omega) (by omega) (fun q128 => ?_) (fun q128 => ?_)
                · -- taken: 221
                  refine lv_iconst (v := nI 2) hx hb d_p15m16_221 (by decide) ?_
                  refine pd_put (ty := .int) X w f120 hz_y rfl 39 (by decide) mT_1178 rfl rfl (by decide +kernel) rfl rfl (Nat.le_of_ble_eq_true rfl) d_p15m16_222 (fun H locs w => ?_)
                  have w : pd_w G s H locs (pd_up h118 y (20, .inr (10, [.ref (ad 0), .ref (ad 1), .ref (ad 2), .int (iv 3), .int (iv 4), .int (iv 5), .ref (ad 6), .ref (ad 7), .ref (ad 8), .ref (ad 9), .ref (ad 10), .ref (ad 11), .int (iv 12), .ref (ad 13), .ref (ad 14), .ref (ad 15), .ref (ad 16), .ref (ad 17), .ref (ad 18), .ref (ad 19), .int (iv 20), .ref (ad 21), .ref (ad 22), .ref (ad 23), .ref (ad 24), .ref (ad 25), .ref (ad 26), .ref (ad 27), .ref (ad 28), .int (iv 29), .ref (ad 30), .ref (ad 31), .int (iv 32), .int (iv 33), .int (iv 34), .int (iv 35), .long tl, .int (nI 0), .int (nI (gm_name cs (sA i0) (eA i0))), .int (nI 2), .int (nI (eA i0)), .ref (ad 41), .ref (ad 42), .int (iv 43)]))) := w
                  obtain ⟨h129, u132⟩ : ∃ z, z = pd_up h118 y (20, .inr (10, [.ref (ad 0), .ref (ad 1), .ref (ad 2), .int (iv 3), .int (iv 4), .int (iv 5), .ref (ad 6), .ref (ad 7), .ref (ad 8), .ref (ad 9), .ref (ad 10), .ref (ad 11), .int (iv 12), .ref (ad 13), .ref (ad 14), .ref (ad 15), .ref (ad 16), .ref (ad 17), .ref (ad 18), .ref (ad 19), .int (iv 20), .ref (ad 21), .ref (ad 22), .ref (ad 23), .ref (ad 24), .ref (ad 25), .ref (ad 26), .ref (ad 27), .ref (ad 28), .int (iv 29), .ref (ad 30), .ref (ad 31), .int (iv 32), .int (iv 33), .int (iv 34), .int (iv 35), .long tl, .int (nI 0), .int (nI (gm_name cs (sA i0) (eA i0))), .int (nI 2), .int (nI (eA i0)), .ref (ad 41), .ref (ad 42), .int (iv 43)])) := ⟨_, rfl⟩
                  rw [← u132] at w
                  have k130 : pd_kq y h118 h129 := by rw [u132]; exact pd_up_kq
                  have f131 : h129 y = some (20, .inr (10, [.ref (ad 0), .ref (ad 1), .ref (ad 2), .int (iv 3), .int (iv 4), .int (iv 5), .ref (ad 6), .ref (ad 7), .ref (ad 8), .ref (ad 9), .ref (ad 10), .ref (ad 11), .int (iv 12), .ref (ad 13), .ref (ad 14), .ref (ad 15), .ref (ad 16), .ref (ad 17), .ref (ad 18), .ref (ad 19), .int (iv 20), .ref (ad 21), .ref (ad 22), .ref (ad 23), .ref (ad 24), .ref (ad 25), .ref (ad 26), .ref (ad 27), .ref (ad 28), .int (iv 29), .ref (ad 30), .ref (ad 31), .int (iv 32), .int (iv 33), .int (iv 34), .int (iv 35), .long tl, .int (nI 0), .int (nI (gm_name cs (sA i0) (eA i0))), .int (nI 2), .int (nI (eA i0)), .ref (ad 41), .ref (ad 42), .int (iv 43)])) := by rw [u132]; exact pd_up_s _ _ _
                  have f133 := k130 _ _ (pd_ne f122 f120 (by simp)) f122
                  have f134 := k130 _ _ (pd_ne f123 f120 (by simp)) f123
                  have f135 := k130 _ _ (pd_ne f124 f120 (by simp)) f124
                  refine lv_aload_n hx hb d_p15m16_225 rfl (lv_at hl 2 rfl) ?_
                  refine lv_iload_n hx hb d_p15m16_226 rfl (lv_at hl 0 rfl) ?_
                  refine lv_iconst (v := nI 1) hx hb d_p15m16_227 (by decide) ?_
                  refine pd_iadd hx hb d_p15m16_228 ?_
                  refine pd_put (ty := .int) X w f131 hz_y rfl 40 (by decide) mT_1179 rfl rfl (by decide +kernel) rfl rfl (Nat.le_of_ble_eq_true rfl) d_p15m16_229 (fun H locs w => ?_)
                  have w : pd_w G s H locs (pd_up h129 y (20, .inr (10, [.ref (ad 0), .ref (ad 1), .ref (ad 2), .int (iv 3), .int (iv 4), .int (iv 5), .ref (ad 6), .ref (ad 7), .ref (ad 8), .ref (ad 9), .ref (ad 10), .ref (ad 11), .int (iv 12), .ref (ad 13), .ref (ad 14), .ref (ad 15), .ref (ad 16), .ref (ad 17), .ref (ad 18), .ref (ad 19), .int (iv 20), .ref (ad 21), .ref (ad 22), .ref (ad 23), .ref (ad 24), .ref (ad 25), .ref (ad 26), .ref (ad 27), .ref (ad 28), .int (iv 29), .ref (ad 30), .ref (ad 31), .int (iv 32), .int (iv 33), .int (iv 34), .int (iv 35), .long tl, .int (nI 0), .int (nI (gm_name cs (sA i0) (eA i0))), .int (nI 2), .int (nI ((gm_name cs (sA i0) (eA i0)) + 1)), .ref (ad 41), .ref (ad 42), .int (iv 43)]))) := w
                  obtain ⟨h136, u139⟩ : ∃ z, z = pd_up h129 y (20, .inr (10, [.ref (ad 0), .ref (ad 1), .ref (ad 2), .int (iv 3), .int (iv 4), .int (iv 5), .ref (ad 6), .ref (ad 7), .ref (ad 8), .ref (ad 9), .ref (ad 10), .ref (ad 11), .int (iv 12), .ref (ad 13), .ref (ad 14), .ref (ad 15), .ref (ad 16), .ref (ad 17), .ref (ad 18), .ref (ad 19), .int (iv 20), .ref (ad 21), .ref (ad 22), .ref (ad 23), .ref (ad 24), .ref (ad 25), .ref (ad 26), .ref (ad 27), .ref (ad 28), .int (iv 29), .ref (ad 30), .ref (ad 31), .int (iv 32), .int (iv 33), .int (iv 34), .int (iv 35), .long tl, .int (nI 0), .int (nI (gm_name cs (sA i0) (eA i0))), .int (nI 2), .int (nI ((gm_name cs (sA i0) (eA i0)) + 1)), .ref (ad 41), .ref (ad 42), .int (iv 43)])) := ⟨_, rfl⟩
                  rw [← u139] at w
                  have k137 : pd_kq y h129 h136 := by rw [u139]; exact pd_up_kq
                  have f138 : h136 y = some (20, .inr (10, [.ref (ad 0), .ref (ad 1), .ref (ad 2), .int (iv 3), .int (iv 4), .int (iv 5), .ref (ad 6), .ref (ad 7), .ref (ad 8), .ref (ad 9), .ref (ad 10), .ref (ad 11), .int (iv 12), .ref (ad 13), .ref (ad 14), .ref (ad 15), .ref (ad 16), .ref (ad 17), .ref (ad 18), .ref (ad 19), .int (iv 20), .ref (ad 21), .ref (ad 22), .ref (ad 23), .ref (ad 24), .ref (ad 25), .ref (ad 26), .ref (ad 27), .ref (ad 28), .int (iv 29), .ref (ad 30), .ref (ad 31), .int (iv 32), .int (iv 33), .int (iv 34), .int (iv 35), .long tl, .int (nI 0), .int (nI (gm_name cs (sA i0) (eA i0))), .int (nI 2), .int (nI ((gm_name cs (sA i0) (eA i0)) + 1)), .ref (ad 41), .ref (ad 42), .int (iv 43)])) := by rw [u139]; exact pd_up_s _ _ _
                  have f140 := k137 _ _ (pd_ne f133 f131 (by simp)) f133
                  have f141 := k137 _ _ (pd_ne f134 f131 (by simp)) f134
                  have f142 := k137 _ _ (pd_ne f135 f131 (by simp)) f135
                  refine lv_aload_n hx hb d_p15m16_232 rfl (lv_at hl 2 rfl) ?_
                  refine pd_get X w f138 rfl 39 (by decide) mT_1178 rfl rfl d_p15m16_233 ?_
                  refine lv_iconst (v := nI 1) hx hb d_p15m16_236 (by decide) ?_
                  refine pd_jeq (tgt := 252) hx hb d_p15m16_237 (by decide) (by decide) (by decide) (fun q => absurd q (by decide)) (fun _ => ?_)
                  refine lv_aload_n hx hb d_p15m16_240 rfl (lv_at hl 2 rfl) ?_
                  refine lv_iload_n hx hb d_p15m16_241 rfl (lv_at hl 0 rfl) ?_
                  refine lv_iconst (v := nI 1) hx hb d_p15m16_242 (by decide) ?_
                  refine pd_iadd hx hb d_p15m16_243 ?_
                  refine lv_iload_n hx hb d_p15m16_244 rfl (lv_at hl 1 rfl) ?_
                  refine pd_cV (a := y) (As := [.int (nI ((gm_name cs (sA i0) (eA i0)) + 1)), .int (nI (eA i0))]) (rest := []) X w f138 rfl (c_PolicyDeskModel_behindPart l G h136 (ad := ad) (fv := fv) (iv := pd_fu (pd_fu (pd_fu (pd_fu iv 37 (nI 0)) 38 (nI (gm_name cs (sA i0) (eA i0)))) 39 (nI 2)) 40 (nI ((gm_name cs (sA i0) (eA i0)) + 1))) (tl := tl) (pd_MO.of (fv2 := fv) (iv2 := pd_fu (pd_fu (pd_fu (pd_fu iv 37 (nI 0)) 38 (nI (gm_name cs (sA i0) (eA i0)))) 39 (nI 2)) 40 (nI ((gm_name cs (sA i0) (eA i0)) + 1))) (tl2 := tl) (ts := [20]) hMO (pd_kx.tr (pd_kx.tr (pd_kx.tr (pd_kx.tr (pd_kx.tr (pd_kx.tr (pd_kx.tr (pd_kq.kx (k2) hy0) (pd_kq.kx (k9) f3)) (pd_kq.kx (k22) f10)) (pd_kq.kx (k29) f23)) (pd_kq.kx (k112) f30)) (pd_kq.kx (k119) f113)) (pd_kq.kx (k130) f120)) (pd_kq.kx (k137) f131)) f138 (fun j hj => Or.inr ⟨fun z => by first | (simp at z; done) | (simp at z; omega), rfl⟩)) hL (by omega) (by omega)) ok_PolicyDeskModel_behindPart ⟨mT_1315, sT_19⟩ mT_1313 ⟨by decide, by decide⟩ rfl hl.1 rfl (Nat.le_of_ble_eq_true rfl) d_p15m16_245 ⟨by decide, by decide⟩ (fun r144 h145 H locs hp146 w => ?_)
                  refine W.widen (k := 0) (n := 0) (by decide) (by decide) ?_
                  obtain ⟨e147, rfl⟩ := hp146
                  have hpl := gm_part_le (cs := cs) (x := gm_name cs (sA i0) (eA i0) + 1) (to := eA i0) (by omega)
                  refine lv_iload_n hx hb d_p15m16_248 rfl (lv_at hl 1 rfl) ?_
                  refine pd_jne (tgt := 256) hx hb d_p15m16_249 (by decide) (by omega) (by omega) (fun q148 => ?_) (fun q148 => ?_)
                  · -- taken: 256
                    refine lv_iconst (v := nI 0) hx hb d_p15m16_256 (by decide) ?_
                    have hpt : gm_pt cs (gm_name cs (sA i0) (eA i0)) (eA i0) = none := by unfold gm_pt; rw [if_neg (by omega), if_neg (by omega), if_neg (by omega), if_neg (by rw [← e147]; omega)]
                    have hp : gm_pat cs (sA i0) (eA i0) = none := by unfold gm_pat; rw [hph]; simp only [hpt]
                    refine W.eq (g2 := F0 m 257 ls [.int (pd_b false)]) rfl ?_
                    exact pd_zret (v := false) X w ⟨by rw [hp]; rfl, pd_kx.tr (pd_kx.tr (pd_kx.tr (pd_kx.tr (pd_kx.tr (pd_kx.tr (pd_kx.tr (pd_kq.kx (k2) hy0) (pd_kq.kx (k9) f3)) (pd_kq.kx (k22) f10)) (pd_kq.kx (k29) f23)) (pd_kq.kx (k112) f30)) (pd_kq.kx (k119) f113)) (pd_kq.kx (k130) f120)) (pd_kq.kx (k137) f131), (nI 0), (nI (gm_name cs (sA i0) (eA i0))), (nI 2), (nI ((gm_name cs (sA i0) (eA i0)) + 1)), (pd_MO.of (fv2 := fv) (iv2 := pd_fu (pd_fu (pd_fu (pd_fu iv 37 (nI 0)) 38 (nI (gm_name cs (sA i0) (eA i0)))) 39 (nI 2)) 40 (nI ((gm_name cs (sA i0) (eA i0)) + 1))) (tl2 := tl) (ts := [20]) hMO (pd_kx.tr (pd_kx.tr (pd_kx.tr (pd_kx.tr (pd_kx.tr (pd_kx.tr (pd_kx.tr (pd_kq.kx (k2) hy0) (pd_kq.kx (k9) f3)) (pd_kq.kx (k22) f10)) (pd_kq.kx (k29) f23)) (pd_kq.kx (k112) f30)) (pd_kq.kx (k119) f113)) (pd_kq.kx (k130) f120)) (pd_kq.kx (k137) f131)) f138 (fun j hj => Or.inr ⟨fun z => by first | (simp at z; done) | (simp at z; omega), rfl⟩)), fun t9 ht9 => by rw [hp] at ht9; cases ht9⟩ (by decide) (by decide) d_p15m16_257
                  · -- not taken: 252
                    refine lv_iconst (v := nI 1) hx hb d_p15m16_252 (by decide) ?_
                    refine lv_goto (tgt := 257) hx hb d_p15m16_253 (by decide) ?_
                    have hpt : gm_pt cs (gm_name cs (sA i0) (eA i0)) (eA i0) = some (2, gm_name cs (sA i0) (eA i0) + 1) := by unfold gm_pt; rw [if_neg (by omega), if_neg (by omega), if_neg (by omega), if_pos (by rw [← e147]; omega)]
                    have hp : gm_pat cs (sA i0) (eA i0) = some (0, gm_name cs (sA i0) (eA i0), 2, gm_name cs (sA i0) (eA i0) + 1) := by unfold gm_pat; rw [hph]; simp only [hpt]
                    refine W.eq (g2 := F0 m 257 ls [.int (pd_b true)]) rfl ?_
                    exact pd_zret (v := true) X w ⟨by rw [hp]; rfl, pd_kx.tr (pd_kx.tr (pd_kx.tr (pd_kx.tr (pd_kx.tr (pd_kx.tr (pd_kx.tr (pd_kq.kx (k2) hy0) (pd_kq.kx (k9) f3)) (pd_kq.kx (k22) f10)) (pd_kq.kx (k29) f23)) (pd_kq.kx (k112) f30)) (pd_kq.kx (k119) f113)) (pd_kq.kx (k130) f120)) (pd_kq.kx (k137) f131), (nI 0), (nI (gm_name cs (sA i0) (eA i0))), (nI 2), (nI ((gm_name cs (sA i0) (eA i0)) + 1)), (pd_MO.of (fv2 := fv) (iv2 := pd_fu (pd_fu (pd_fu (pd_fu iv 37 (nI 0)) 38 (nI (gm_name cs (sA i0) (eA i0)))) 39 (nI 2)) 40 (nI ((gm_name cs (sA i0) (eA i0)) + 1))) (tl2 := tl) (ts := [20]) hMO (pd_kx.tr (pd_kx.tr (pd_kx.tr (pd_kx.tr (pd_kx.tr (pd_kx.tr (pd_kx.tr (pd_kq.kx (k2) hy0) (pd_kq.kx (k9) f3)) (pd_kq.kx (k22) f10)) (pd_kq.kx (k29) f23)) (pd_kq.kx (k112) f30)) (pd_kq.kx (k119) f113)) (pd_kq.kx (k130) f120)) (pd_kq.kx (k137) f131)) f138 (fun j hj => Or.inr ⟨fun z => by first | (simp at z; done) | (simp at z; omega), rfl⟩)), fun t9 ht9 => by rw [hp] at ht9; cases ht9; exact ⟨rfl, rfl, rfl, rfl⟩⟩ (by decide) (by decide) d_p15m16_257
                · -- not taken: 210
                  refine lv_iload_n hx hb d_p15m16_210 rfl (lv_at hl 0 rfl) ?_
                  refine lv_iconst (v := nI 2) hx hb d_p15m16_211 (by decide) ?_
                  refine pd_iadd hx hb d_p15m16_212 ?_
                  refine lv_iload_n hx hb d_p15m16_213 rfl (lv_at hl 1 rfl) ?_
                  refine pd_jne (tgt := 221) hx hb d_p15m16_214 (by decide) (by omega) (by omega) (fun q149 => ?_) (fun q149 => ?_)
                  · -- taken: 221
                    refine lv_iconst (v := nI 2) hx hb d_p15m16_221 (by decide) ?_
                    refine pd_put (ty := .int) X w f120 hz_y rfl 39 (by decide) mT_1178 rfl rfl (by decide +kernel) rfl rfl (Nat.le_of_ble_eq_true rfl) d_p15m16_222 (fun H locs w => ?_)
                    have w : pd_w G s H locs (pd_up h118 y (20, .inr (10, [.ref (ad 0), .ref (ad 1), .ref (ad 2), .int (iv 3), .int (iv 4), .int (iv 5), .ref (ad 6), .ref (ad 7), .ref (ad 8), .ref (ad 9), .ref (ad 10), .ref (ad 11), .int (iv 12), .ref (ad 13), .ref (ad 14), .ref (ad 15), .ref (ad 16), .ref (ad 17), .ref (ad 18), .ref (ad 19), .int (iv 20), .ref (ad 21), .ref (ad 22), .ref (ad 23), .ref (ad 24), .ref (ad 25), .ref (ad 26), .ref (ad 27), .ref (ad 28), .int (iv 29), .ref (ad 30), .ref (ad 31), .int (iv 32), .int (iv 33), .int (iv 34), .int (iv 35), .long tl, .int (nI 0), .int (nI (gm_name cs (sA i0) (eA i0))), .int (nI 2), .int (nI (eA i0)), .ref (ad 41), .ref (ad 42), .int (iv 43)]))) := w
                    obtain ⟨h150, u153⟩ : ∃ z, z = pd_up h118 y (20, .inr (10, [.ref (ad 0), .ref (ad 1), .ref (ad 2), .int (iv 3), .int (iv 4), .int (iv 5), .ref (ad 6), .ref (ad 7), .ref (ad 8), .ref (ad 9), .ref (ad 10), .ref (ad 11), .int (iv 12), .ref (ad 13), .ref (ad 14), .ref (ad 15), .ref (ad 16), .ref (ad 17), .ref (ad 18), .ref (ad 19), .int (iv 20), .ref (ad 21), .ref (ad 22), .ref (ad 23), .ref (ad 24), .ref (ad 25), .ref (ad 26), .ref (ad 27), .ref (ad 28), .int (iv 29), .ref (ad 30), .ref (ad 31), .int (iv 32), .int (iv 33), .int (iv 34), .int (iv 35), .long tl, .int (nI 0), .int (nI (gm_name cs (sA i0) (eA i0))), .int (nI 2), .int (nI (eA i0)), .ref (ad 41), .ref (ad 42), .int (iv 43)])) := ⟨_, rfl⟩
                    rw [← u153] at w
                    have k151 : pd_kq y h118 h150 := by rw [u153]; exact pd_up_kq
                    have f152 : h150 y = some (20, .inr (10, [.ref (ad 0), .ref (ad 1), .ref (ad 2), .int (iv 3), .int (iv 4), .int (iv 5), .ref (ad 6), .ref (ad 7), .ref (ad 8), .ref (ad 9), .ref (ad 10), .ref (ad 11), .int (iv 12), .ref (ad 13), .ref (ad 14), .ref (ad 15), .ref (ad 16), .ref (ad 17), .ref (ad 18), .ref (ad 19), .int (iv 20), .ref (ad 21), .ref (ad 22), .ref (ad 23), .ref (ad 24), .ref (ad 25), .ref (ad 26), .ref (ad 27), .ref (ad 28), .int (iv 29), .ref (ad 30), .ref (ad 31), .int (iv 32), .int (iv 33), .int (iv 34), .int (iv 35), .long tl, .int (nI 0), .int (nI (gm_name cs (sA i0) (eA i0))), .int (nI 2), .int (nI (eA i0)), .ref (ad 41), .ref (ad 42), .int (iv 43)])) := by rw [u153]; exact pd_up_s _ _ _
                    have f154 := k151 _ _ (pd_ne f122 f120 (by simp)) f122
                    have f155 := k151 _ _ (pd_ne f123 f120 (by simp)) f123
                    have f156 := k151 _ _ (pd_ne f124 f120 (by simp)) f124
                    refine lv_aload_n hx hb d_p15m16_225 rfl (lv_at hl 2 rfl) ?_
                    refine lv_iload_n hx hb d_p15m16_226 rfl (lv_at hl 0 rfl) ?_
                    refine lv_iconst (v := nI 1) hx hb d_p15m16_227 (by decide) ?_
                    refine pd_iadd hx hb d_p15m16_228 ?_
                    refine pd_put (ty := .int) X w f152 hz_y rfl 40 (by decide) mT_1179 rfl rfl (by decide +kernel) rfl rfl (Nat.le_of_ble_eq_true rfl) d_p15m16_229 (fun H locs w => ?_)
                    have w : pd_w G s H locs (pd_up h150 y (20, .inr (10, [.ref (ad 0), .ref (ad 1), .ref (ad 2), .int (iv 3), .int (iv 4), .int (iv 5), .ref (ad 6), .ref (ad 7), .ref (ad 8), .ref (ad 9), .ref (ad 10), .ref (ad 11), .int (iv 12), .ref (ad 13), .ref (ad 14), .ref (ad 15), .ref (ad 16), .ref (ad 17), .ref (ad 18), .ref (ad 19), .int (iv 20), .ref (ad 21), .ref (ad 22), .ref (ad 23), .ref (ad 24), .ref (ad 25), .ref (ad 26), .ref (ad 27), .ref (ad 28), .int (iv 29), .ref (ad 30), .ref (ad 31), .int (iv 32), .int (iv 33), .int (iv 34), .int (iv 35), .long tl, .int (nI 0), .int (nI (gm_name cs (sA i0) (eA i0))), .int (nI 2), .int (nI ((gm_name cs (sA i0) (eA i0)) + 1)), .ref (ad 41), .ref (ad 42), .int (iv 43)]))) := w
                    obtain ⟨h157, u160⟩ : ∃ z, z = pd_up h150 y (20, .inr (10, [.ref (ad 0), .ref (ad 1), .ref (ad 2), .int (iv 3), .int (iv 4), .int (iv 5), .ref (ad 6), .ref (ad 7), .ref (ad 8), .ref (ad 9), .ref (ad 10), .ref (ad 11), .int (iv 12), .ref (ad 13), .ref (ad 14), .ref (ad 15), .ref (ad 16), .ref (ad 17), .ref (ad 18), .ref (ad 19), .int (iv 20), .ref (ad 21), .ref (ad 22), .ref (ad 23), .ref (ad 24), .ref (ad 25), .ref (ad 26), .ref (ad 27), .ref (ad 28), .int (iv 29), .ref (ad 30), .ref (ad 31), .int (iv 32), .int (iv 33), .int (iv 34), .int (iv 35), .long tl, .int (nI 0), .int (nI (gm_name cs (sA i0) (eA i0))), .int (nI 2), .int (nI ((gm_name cs (sA i0) (eA i0)) + 1)), .ref (ad 41), .ref (ad 42), .int (iv 43)])) := ⟨_, rfl⟩
                    rw [← u160] at w
                    have k158 : pd_kq y h150 h157 := by rw [u160]; exact pd_up_kq
                    have f159 : h157 y = some (20, .inr (10, [.ref (ad 0), .ref (ad 1), .ref (ad 2), .int (iv 3), .int (iv 4), .int (iv 5), .ref (ad 6), .ref (ad 7), .ref (ad 8), .ref (ad 9), .ref (ad 10), .ref (ad 11), .int (iv 12), .ref (ad 13), .ref (ad 14), .ref (ad 15), .ref (ad 16), .ref (ad 17), .ref (ad 18), .ref (ad 19), .int (iv 20), .ref (ad 21), .ref (ad 22), .ref (ad 23), .ref (ad 24), .ref (ad 25), .ref (ad 26), .ref (ad 27), .ref (ad 28), .int (iv 29), .ref (ad 30), .ref (ad 31), .int (iv 32), .int (iv 33), .int (iv 34), .int (iv 35), .long tl, .int (nI 0), .int (nI (gm_name cs (sA i0) (eA i0))), .int (nI 2), .int (nI ((gm_name cs (sA i0) (eA i0)) + 1)), .ref (ad 41), .ref (ad 42), .int (iv 43)])) := by rw [u160]; exact pd_up_s _ _ _
                    have f161 := k158 _ _ (pd_ne f154 f152 (by simp)) f154
                    have f162 := k158 _ _ (pd_ne f155 f152 (by simp)) f155
                    have f163 := k158 _ _ (pd_ne f156 f152 (by simp)) f156
                    refine lv_aload_n hx hb d_p15m16_232 rfl (lv_at hl 2 rfl) ?_
                    refine pd_get X w f159 rfl 39 (by decide) mT_1178 rfl rfl d_p15m16_233 ?_
                    refine lv_iconst (v := nI 1) hx hb d_p15m16_236 (by decide) ?_
                    refine pd_jeq (tgt := 252) hx hb d_p15m16_237 (by decide) (by decide) (by decide) (fun q => absurd q (by decide)) (fun _ => ?_)
                    refine lv_aload_n hx hb d_p15m16_240 rfl (lv_at hl 2 rfl) ?_
                    refine lv_iload_n hx hb d_p15m16_241 rfl (lv_at hl 0 rfl) ?_
                    refine lv_iconst (v := nI 1) hx hb d_p15m16_242 (by decide) ?_
                    refine pd_iadd hx hb d_p15m16_243 ?_
                    refine lv_iload_n hx hb d_p15m16_244 rfl (lv_at hl 1 rfl) ?_
                    refine pd_cV (a := y) (As := [.int (nI ((gm_name cs (sA i0) (eA i0)) + 1)), .int (nI (eA i0))]) (rest := []) X w f159 rfl (c_PolicyDeskModel_behindPart l G h157 (ad := ad) (fv := fv) (iv := pd_fu (pd_fu (pd_fu (pd_fu iv 37 (nI 0)) 38 (nI (gm_name cs (sA i0) (eA i0)))) 39 (nI 2)) 40 (nI ((gm_name cs (sA i0) (eA i0)) + 1))) (tl := tl) (pd_MO.of (fv2 := fv) (iv2 := pd_fu (pd_fu (pd_fu (pd_fu iv 37 (nI 0)) 38 (nI (gm_name cs (sA i0) (eA i0)))) 39 (nI 2)) 40 (nI ((gm_name cs (sA i0) (eA i0)) + 1))) (tl2 := tl) (ts := [20]) hMO (pd_kx.tr (pd_kx.tr (pd_kx.tr (pd_kx.tr (pd_kx.tr (pd_kx.tr (pd_kx.tr (pd_kq.kx (k2) hy0) (pd_kq.kx (k9) f3)) (pd_kq.kx (k22) f10)) (pd_kq.kx (k29) f23)) (pd_kq.kx (k112) f30)) (pd_kq.kx (k119) f113)) (pd_kq.kx (k151) f120)) (pd_kq.kx (k158) f152)) f159 (fun j hj => Or.inr ⟨fun z => by first | (simp at z; done) | (simp at z; omega), rfl⟩)) hL (by omega) (by omega)) ok_PolicyDeskModel_behindPart ⟨mT_1315, sT_19⟩ mT_1313 ⟨by decide, by decide⟩ rfl hl.1 rfl (Nat.le_of_ble_eq_true rfl) d_p15m16_245 ⟨by decide, by decide⟩ (fun r165 h166 H locs hp167 w => ?_)
                    refine W.widen (k := 0) (n := 0) (by decide) (by decide) ?_
                    obtain ⟨e168, rfl⟩ := hp167
                    have hpl := gm_part_le (cs := cs) (x := gm_name cs (sA i0) (eA i0) + 1) (to := eA i0) (by omega)
                    refine lv_iload_n hx hb d_p15m16_248 rfl (lv_at hl 1 rfl) ?_
                    refine pd_jne (tgt := 256) hx hb d_p15m16_249 (by decide) (by omega) (by omega) (fun q169 => ?_) (fun q169 => ?_)
                    · -- taken: 256
                      refine lv_iconst (v := nI 0) hx hb d_p15m16_256 (by decide) ?_
                      have hpt : gm_pt cs (gm_name cs (sA i0) (eA i0)) (eA i0) = none := by unfold gm_pt; rw [if_neg (by omega), if_neg (by omega), if_neg (by omega), if_neg (by rw [← e168]; omega)]
                      have hp : gm_pat cs (sA i0) (eA i0) = none := by unfold gm_pat; rw [hph]; simp only [hpt]
                      refine W.eq (g2 := F0 m 257 ls [.int (pd_b false)]) rfl ?_
                      exact pd_zret (v := false) X w ⟨by rw [hp]; rfl, pd_kx.tr (pd_kx.tr (pd_kx.tr (pd_kx.tr (pd_kx.tr (pd_kx.tr (pd_kx.tr (pd_kq.kx (k2) hy0) (pd_kq.kx (k9) f3)) (pd_kq.kx (k22) f10)) (pd_kq.kx (k29) f23)) (pd_kq.kx (k112) f30)) (pd_kq.kx (k119) f113)) (pd_kq.kx (k151) f120)) (pd_kq.kx (k158) f152), (nI 0), (nI (gm_name cs (sA i0) (eA i0))), (nI 2), (nI ((gm_name cs (sA i0) (eA i0)) + 1)), (pd_MO.of (fv2 := fv) (iv2 := pd_fu (pd_fu (pd_fu (pd_fu iv 37 (nI 0)) 38 (nI (gm_name cs (sA i0) (eA i0)))) 39 (nI 2)) 40 (nI ((gm_name cs (sA i0) (eA i0)) + 1))) (tl2 := tl) (ts := [20]) hMO (pd_kx.tr (pd_kx.tr (pd_kx.tr (pd_kx.tr (pd_kx.tr (pd_kx.tr (pd_kx.tr (pd_kq.kx (k2) hy0) (pd_kq.kx (k9) f3)) (pd_kq.kx (k22) f10)) (pd_kq.kx (k29) f23)) (pd_kq.kx (k112) f30)) (pd_kq.kx (k119) f113)) (pd_kq.kx (k151) f120)) (pd_kq.kx (k158) f152)) f159 (fun j hj => Or.inr ⟨fun z => by first | (simp at z; done) | (simp at z; omega), rfl⟩)), fun t9 ht9 => by rw [hp] at ht9; cases ht9⟩ (by decide) (by decide) d_p15m16_257
                    · -- not taken: 252
                      refine lv_iconst (v := nI 1) hx hb d_p15m16_252 (by decide) ?_
                      refine lv_goto (tgt := 257) hx hb d_p15m16_253 (by decide) ?_
                      have hpt : gm_pt cs (gm_name cs (sA i0) (eA i0)) (eA i0) = some (2, gm_name cs (sA i0) (eA i0) + 1) := by unfold gm_pt; rw [if_neg (by omega), if_neg (by omega), if_neg (by omega), if_pos (by rw [← e168]; omega)]
                      have hp : gm_pat cs (sA i0) (eA i0) = some (0, gm_name cs (sA i0) (eA i0), 2, gm_name cs (sA i0) (eA i0) + 1) := by unfold gm_pat; rw [hph]; simp only [hpt]
                      refine W.eq (g2 := F0 m 257 ls [.int (pd_b true)]) rfl ?_
                      exact pd_zret (v := true) X w ⟨by rw [hp]; rfl, pd_kx.tr (pd_kx.tr (pd_kx.tr (pd_kx.tr (pd_kx.tr (pd_kx.tr (pd_kx.tr (pd_kq.kx (k2) hy0) (pd_kq.kx (k9) f3)) (pd_kq.kx (k22) f10)) (pd_kq.kx (k29) f23)) (pd_kq.kx (k112) f30)) (pd_kq.kx (k119) f113)) (pd_kq.kx (k151) f120)) (pd_kq.kx (k158) f152), (nI 0), (nI (gm_name cs (sA i0) (eA i0))), (nI 2), (nI ((gm_name cs (sA i0) (eA i0)) + 1)), (pd_MO.of (fv2 := fv) (iv2 := pd_fu (pd_fu (pd_fu (pd_fu iv 37 (nI 0)) 38 (nI (gm_name cs (sA i0) (eA i0)))) 39 (nI 2)) 40 (nI ((gm_name cs (sA i0) (eA i0)) + 1))) (tl2 := tl) (ts := [20]) hMO (pd_kx.tr (pd_kx.tr (pd_kx.tr (pd_kx.tr (pd_kx.tr (pd_kx.tr (pd_kx.tr (pd_kq.kx (k2) hy0) (pd_kq.kx (k9) f3)) (pd_kq.kx (k22) f10)) (pd_kq.kx (k29) f23)) (pd_kq.kx (k112) f30)) (pd_kq.kx (k119) f113)) (pd_kq.kx (k151) f120)) (pd_kq.kx (k158) f152)) f159 (fun j hj => Or.inr ⟨fun z => by first | (simp at z; done) | (simp at z; omega), rfl⟩)), fun t9 ht9 => by rw [hp] at ht9; cases ht9; exact ⟨rfl, rfl, rfl, rfl⟩⟩ (by decide) (by decide) d_p15m16_257
                  · -- not taken: 217
                    refine lv_iconst (v := nI 1) hx hb d_p15m16_217 (by decide) ?_
                    refine lv_goto (tgt := 222) hx hb d_p15m16_218 (by decide) ?_
                    refine pd_put (ty := .int) X w f120 hz_y rfl 39 (by decide) mT_1178 rfl rfl (by decide +kernel) rfl rfl (Nat.le_of_ble_eq_true rfl) d_p15m16_222 (fun H locs w => ?_)
                    have w : pd_w G s H locs (pd_up h118 y (20, .inr (10, [.ref (ad 0), .ref (ad 1), .ref (ad 2), .int (iv 3), .int (iv 4), .int (iv 5), .ref (ad 6), .ref (ad 7), .ref (ad 8), .ref (ad 9), .ref (ad 10), .ref (ad 11), .int (iv 12), .ref (ad 13), .ref (ad 14), .ref (ad 15), .ref (ad 16), .ref (ad 17), .ref (ad 18), .ref (ad 19), .int (iv 20), .ref (ad 21), .ref (ad 22), .ref (ad 23), .ref (ad 24), .ref (ad 25), .ref (ad 26), .ref (ad 27), .ref (ad 28), .int (iv 29), .ref (ad 30), .ref (ad 31), .int (iv 32), .int (iv 33), .int (iv 34), .int (iv 35), .long tl, .int (nI 0), .int (nI (gm_name cs (sA i0) (eA i0))), .int (nI 1), .int (nI (eA i0)), .ref (ad 41), .ref (ad 42), .int (iv 43)]))) := w
                    obtain ⟨h170, u173⟩ : ∃ z, z = pd_up h118 y (20, .inr (10, [.ref (ad 0), .ref (ad 1), .ref (ad 2), .int (iv 3), .int (iv 4), .int (iv 5), .ref (ad 6), .ref (ad 7), .ref (ad 8), .ref (ad 9), .ref (ad 10), .ref (ad 11), .int (iv 12), .ref (ad 13), .ref (ad 14), .ref (ad 15), .ref (ad 16), .ref (ad 17), .ref (ad 18), .ref (ad 19), .int (iv 20), .ref (ad 21), .ref (ad 22), .ref (ad 23), .ref (ad 24), .ref (ad 25), .ref (ad 26), .ref (ad 27), .ref (ad 28), .int (iv 29), .ref (ad 30), .ref (ad 31), .int (iv 32), .int (iv 33), .int (iv 34), .int (iv 35), .long tl, .int (nI 0), .int (nI (gm_name cs (sA i0) (eA i0))), .int (nI 1), .int (nI (eA i0)), .ref (ad 41), .ref (ad 42), .int (iv 43)])) := ⟨_, rfl⟩
                    rw [← u173] at w
                    have k171 : pd_kq y h118 h170 := by rw [u173]; exact pd_up_kq
                    have f172 : h170 y = some (20, .inr (10, [.ref (ad 0), .ref (ad 1), .ref (ad 2), .int (iv 3), .int (iv 4), .int (iv 5), .ref (ad 6), .ref (ad 7), .ref (ad 8), .ref (ad 9), .ref (ad 10), .ref (ad 11), .int (iv 12), .ref (ad 13), .ref (ad 14), .ref (ad 15), .ref (ad 16), .ref (ad 17), .ref (ad 18), .ref (ad 19), .int (iv 20), .ref (ad 21), .ref (ad 22), .ref (ad 23), .ref (ad 24), .ref (ad 25), .ref (ad 26), .ref (ad 27), .ref (ad 28), .int (iv 29), .ref (ad 30), .ref (ad 31), .int (iv 32), .int (iv 33), .int (iv 34), .int (iv 35), .long tl, .int (nI 0), .int (nI (gm_name cs (sA i0) (eA i0))), .int (nI 1), .int (nI (eA i0)), .ref (ad 41), .ref (ad 42), .int (iv 43)])) := by rw [u173]; exact pd_up_s _ _ _
                    have f174 := k171 _ _ (pd_ne f122 f120 (by simp)) f122
                    have f175 := k171 _ _ (pd_ne f123 f120 (by simp)) f123
                    have f176 := k171 _ _ (pd_ne f124 f120 (by simp)) f124
                    refine lv_aload_n hx hb d_p15m16_225 rfl (lv_at hl 2 rfl) ?_
                    refine lv_iload_n hx hb d_p15m16_226 rfl (lv_at hl 0 rfl) ?_
                    refine lv_iconst (v := nI 1) hx hb d_p15m16_227 (by decide) ?_
                    refine pd_iadd hx hb d_p15m16_228 ?_
                    refine pd_put (ty := .int) X w f172 hz_y rfl 40 (by decide) mT_1179 rfl rfl (by decide +kernel) rfl rfl (Nat.le_of_ble_eq_true rfl) d_p15m16_229 (fun H locs w => ?_)
                    have w : pd_w G s H locs (pd_up h170 y (20, .inr (10, [.ref (ad 0), .ref (ad 1), .ref (ad 2), .int (iv 3), .int (iv 4), .int (iv 5), .ref (ad 6), .ref (ad 7), .ref (ad 8), .ref (ad 9), .ref (ad 10), .ref (ad 11), .int (iv 12), .ref (ad 13), .ref (ad 14), .ref (ad 15), .ref (ad 16), .ref (ad 17), .ref (ad 18), .ref (ad 19), .int (iv 20), .ref (ad 21), .ref (ad 22), .ref (ad 23), .ref (ad 24), .ref (ad 25), .ref (ad 26), .ref (ad 27), .ref (ad 28), .int (iv 29), .ref (ad 30), .ref (ad 31), .int (iv 32), .int (iv 33), .int (iv 34), .int (iv 35), .long tl, .int (nI 0), .int (nI (gm_name cs (sA i0) (eA i0))), .int (nI 1), .int (nI ((gm_name cs (sA i0) (eA i0)) + 1)), .ref (ad 41), .ref (ad 42), .int (iv 43)]))) := w
                    obtain ⟨h177, u180⟩ : ∃ z, z = pd_up h170 y (20, .inr (10, [.ref (ad 0), .ref (ad 1), .ref (ad 2), .int (iv 3), .int (iv 4), .int (iv 5), .ref (ad 6), .ref (ad 7), .ref (ad 8), .ref (ad 9), .ref (ad 10), .ref (ad 11), .int (iv 12), .ref (ad 13), .ref (ad 14), .ref (ad 15), .ref (ad 16), .ref (ad 17), .ref (ad 18), .ref (ad 19), .int (iv 20), .ref (ad 21), .ref (ad 22), .ref (ad 23), .ref (ad 24), .ref (ad 25), .ref (ad 26), .ref (ad 27), .ref (ad 28), .int (iv 29), .ref (ad 30), .ref (ad 31), .int (iv 32), .int (iv 33), .int (iv 34), .int (iv 35), .long tl, .int (nI 0), .int (nI (gm_name cs (sA i0) (eA i0))), .int (nI 1), .int (nI ((gm_name cs (sA i0) (eA i0)) + 1)), .ref (ad 41), .ref (ad 42), .int (iv 43)])) := ⟨_, rfl⟩
                    rw [← u180] at w
                    have k178 : pd_kq y h170 h177 := by rw [u180]; exact pd_up_kq
                    have f179 : h177 y = some (20, .inr (10, [.ref (ad 0), .ref (ad 1), .ref (ad 2), .int (iv 3), .int (iv 4), .int (iv 5), .ref (ad 6), .ref (ad 7), .ref (ad 8), .ref (ad 9), .ref (ad 10), .ref (ad 11), .int (iv 12), .ref (ad 13), .ref (ad 14), .ref (ad 15), .ref (ad 16), .ref (ad 17), .ref (ad 18), .ref (ad 19), .int (iv 20), .ref (ad 21), .ref (ad 22), .ref (ad 23), .ref (ad 24), .ref (ad 25), .ref (ad 26), .ref (ad 27), .ref (ad 28), .int (iv 29), .ref (ad 30), .ref (ad 31), .int (iv 32), .int (iv 33), .int (iv 34), .int (iv 35), .long tl, .int (nI 0), .int (nI (gm_name cs (sA i0) (eA i0))), .int (nI 1), .int (nI ((gm_name cs (sA i0) (eA i0)) + 1)), .ref (ad 41), .ref (ad 42), .int (iv 43)])) := by rw [u180]; exact pd_up_s _ _ _
                    have f181 := k178 _ _ (pd_ne f174 f172 (by simp)) f174
                    have f182 := k178 _ _ (pd_ne f175 f172 (by simp)) f175
                    have f183 := k178 _ _ (pd_ne f176 f172 (by simp)) f176
                    refine lv_aload_n hx hb d_p15m16_232 rfl (lv_at hl 2 rfl) ?_
                    refine pd_get X w f179 rfl 39 (by decide) mT_1178 rfl rfl d_p15m16_233 ?_
                    refine lv_iconst (v := nI 1) hx hb d_p15m16_236 (by decide) ?_
                    refine pd_jeq (tgt := 252) hx hb d_p15m16_237 (by decide) (by decide) (by decide) (fun _ => ?_) (fun q => absurd q (by decide))
                    refine lv_iconst (v := nI 1) hx hb d_p15m16_252 (by decide) ?_
                    refine lv_goto (tgt := 257) hx hb d_p15m16_253 (by decide) ?_
                    have hpt : gm_pt cs (gm_name cs (sA i0) (eA i0)) (eA i0) = some (1, gm_name cs (sA i0) (eA i0) + 1) := by unfold gm_pt; rw [if_neg (by omega), if_neg (by omega), if_pos (by omega)]
                    have hp : gm_pat cs (sA i0) (eA i0) = some (0, gm_name cs (sA i0) (eA i0), 1, gm_name cs (sA i0) (eA i0) + 1) := by unfold gm_pat; rw [hph]; simp only [hpt]
                    refine W.eq (g2 := F0 m 257 ls [.int (pd_b true)]) rfl ?_
                    exact pd_zret (v := true) X w ⟨by rw [hp]; rfl, pd_kx.tr (pd_kx.tr (pd_kx.tr (pd_kx.tr (pd_kx.tr (pd_kx.tr (pd_kx.tr (pd_kq.kx (k2) hy0) (pd_kq.kx (k9) f3)) (pd_kq.kx (k22) f10)) (pd_kq.kx (k29) f23)) (pd_kq.kx (k112) f30)) (pd_kq.kx (k119) f113)) (pd_kq.kx (k171) f120)) (pd_kq.kx (k178) f172), (nI 0), (nI (gm_name cs (sA i0) (eA i0))), (nI 1), (nI ((gm_name cs (sA i0) (eA i0)) + 1)), (pd_MO.of (fv2 := fv) (iv2 := pd_fu (pd_fu (pd_fu (pd_fu iv 37 (nI 0)) 38 (nI (gm_name cs (sA i0) (eA i0)))) 39 (nI 1)) 40 (nI ((gm_name cs (sA i0) (eA i0)) + 1))) (tl2 := tl) (ts := [20]) hMO (pd_kx.tr (pd_kx.tr (pd_kx.tr (pd_kx.tr (pd_kx.tr (pd_kx.tr (pd_kx.tr (pd_kq.kx (k2) hy0) (pd_kq.kx (k9) f3)) (pd_kq.kx (k22) f10)) (pd_kq.kx (k29) f23)) (pd_kq.kx (k112) f30)) (pd_kq.kx (k119) f113)) (pd_kq.kx (k171) f120)) (pd_kq.kx (k178) f172)) f179 (fun j hj => Or.inr ⟨fun z => by first | (simp at z; done) | (simp at z; omega), rfl⟩)), fun t9 ht9 => by rw [hp] at ht9; cases ht9; exact ⟨rfl, rfl, rfl, rfl⟩⟩ (by decide) (by decide) d_p15m16_257
              · -- not taken: 194
                refine lv_iconst (v := nI 0) hx hb d_p15m16_194 (by decide) ?_
                have hpt : gm_pt cs (gm_name cs (sA i0) (eA i0)) (eA i0) = none := by unfold gm_pt; rw [if_neg (by omega), if_pos (by omega)]
                have hp : gm_pat cs (sA i0) (eA i0) = none := by unfold gm_pat; rw [hph]; simp only [hpt]
                refine W.eq (g2 := F0 m 195 ls [.int (pd_b false)]) rfl ?_
                exact pd_zret (v := false) X w ⟨by rw [hp]; rfl, pd_kx.tr (pd_kx.tr (pd_kx.tr (pd_kx.tr (pd_kx.tr (pd_kq.kx (k2) hy0) (pd_kq.kx (k9) f3)) (pd_kq.kx (k22) f10)) (pd_kq.kx (k29) f23)) (pd_kq.kx (k112) f30)) (pd_kq.kx (k119) f113), (nI 0), (nI (gm_name cs (sA i0) (eA i0))), (nI 0), (nI (eA i0)), (pd_MO.of (fv2 := fv) (iv2 := pd_fu (pd_fu (pd_fu (pd_fu iv 37 (nI 0)) 38 (nI (gm_name cs (sA i0) (eA i0)))) 39 (nI 0)) 40 (nI (eA i0))) (tl2 := tl) (ts := [20]) hMO (pd_kx.tr (pd_kx.tr (pd_kx.tr (pd_kx.tr (pd_kx.tr (pd_kq.kx (k2) hy0) (pd_kq.kx (k9) f3)) (pd_kq.kx (k22) f10)) (pd_kq.kx (k29) f23)) (pd_kq.kx (k112) f30)) (pd_kq.kx (k119) f113)) f120 (fun j hj => Or.inr ⟨fun z => by first | (simp at z; done) | (simp at z; omega), rfl⟩)), fun t9 ht9 => by rw [hp] at ht9; cases ht9⟩ (by decide) (by decide) d_p15m16_195
          · -- not taken: 174
            refine lv_iconst (v := nI 1) hx hb d_p15m16_174 (by decide) ?_
            have hpt : gm_pt cs (gm_name cs (sA i0) (eA i0)) (eA i0) = some (0, eA i0) := by unfold gm_pt; rw [if_pos (by omega)]
            have hp : gm_pat cs (sA i0) (eA i0) = some (0, gm_name cs (sA i0) (eA i0), 0, eA i0) := by unfold gm_pat; rw [hph]; simp only [hpt]
            refine W.eq (g2 := F0 m 175 ls [.int (pd_b true)]) rfl ?_
            exact pd_zret (v := true) X w ⟨by rw [hp]; rfl, pd_kx.tr (pd_kx.tr (pd_kx.tr (pd_kx.tr (pd_kx.tr (pd_kq.kx (k2) hy0) (pd_kq.kx (k9) f3)) (pd_kq.kx (k22) f10)) (pd_kq.kx (k29) f23)) (pd_kq.kx (k112) f30)) (pd_kq.kx (k119) f113), (nI 0), (nI (gm_name cs (sA i0) (eA i0))), (nI 0), (nI (eA i0)), (pd_MO.of (fv2 := fv) (iv2 := pd_fu (pd_fu (pd_fu (pd_fu iv 37 (nI 0)) 38 (nI (gm_name cs (sA i0) (eA i0)))) 39 (nI 0)) 40 (nI (eA i0))) (tl2 := tl) (ts := [20]) hMO (pd_kx.tr (pd_kx.tr (pd_kx.tr (pd_kx.tr (pd_kx.tr (pd_kq.kx (k2) hy0) (pd_kq.kx (k9) f3)) (pd_kq.kx (k22) f10)) (pd_kq.kx (k29) f23)) (pd_kq.kx (k112) f30)) (pd_kq.kx (k119) f113)) f120 (fun j hj => Or.inr ⟨fun z => by first | (simp at z; done) | (simp at z; omega), rfl⟩)), fun t9 ht9 => by rw [hp] at ht9; cases ht9; exact ⟨rfl, rfl, rfl, rfl⟩⟩ (by decide) (by decide) d_p15m16_175
        · -- not taken: 108
          refine lv_aload_n hx hb d_p15m16_108 rfl (lv_at hl 2 rfl) ?_
          refine pd_get X w f30 rfl 0 (by decide) mT_1139 rfl rfl d_p15m16_109 ?_
          refine lv_iload_n hx hb d_p15m16_112 rfl (lv_at hl 0 rfl) ?_
          refine lv_iconst (v := nI 1) hx hb d_p15m16_113 (by decide) ?_
          refine pd_iadd hx hb d_p15m16_114 ?_
          refine pd_iald X w f32 (by omega) (by omega) d_p15m16_115 ?_
          refine pd_top (v' := .int (nI (cs.getD ((gm_name cs (sA i0) (eA i0)) + 1) 0))) (congrArg Value.int (hln _ (by omega))) ?_
          have := tx_lt hlc ((gm_name cs (sA i0) (eA i0)) + 1)
          refine lv_bipush (v := nI 42) hx hb d_p15m16_116 (by decide) ?_
          refine pd_jne (tgt := 159) hx hb d_p15m16_118 (by decide) (by omega) (by omega) (fun q185 => ?_) (fun q185 => ?_)
          · -- taken: 159
            have hph : gm_ph cs (sA i0) (eA i0) = some (0, gm_name cs (sA i0) (eA i0), gm_name cs (sA i0) (eA i0)) := by unfold gm_ph; rw [if_neg (by omega), if_neg (by omega), if_neg (by omega)]
            refine lv_aload_n hx hb d_p15m16_159 rfl (lv_at hl 2 rfl) ?_
            refine lv_iconst (v := nI 0) hx hb d_p15m16_160 (by decide) ?_
            refine pd_put (ty := .int) X w f30 hz_y rfl 39 (by decide) mT_1178 rfl rfl (by decide +kernel) rfl rfl (Nat.le_of_ble_eq_true rfl) d_p15m16_161 (fun H locs w => ?_)
            have w : pd_w G s H locs (pd_up h28 y (20, .inr (10, [.ref (ad 0), .ref (ad 1), .ref (ad 2), .int (iv 3), .int (iv 4), .int (iv 5), .ref (ad 6), .ref (ad 7), .ref (ad 8), .ref (ad 9), .ref (ad 10), .ref (ad 11), .int (iv 12), .ref (ad 13), .ref (ad 14), .ref (ad 15), .ref (ad 16), .ref (ad 17), .ref (ad 18), .ref (ad 19), .int (iv 20), .ref (ad 21), .ref (ad 22), .ref (ad 23), .ref (ad 24), .ref (ad 25), .ref (ad 26), .ref (ad 27), .ref (ad 28), .int (iv 29), .ref (ad 30), .ref (ad 31), .int (iv 32), .int (iv 33), .int (iv 34), .int (iv 35), .long tl, .int (nI 0), .int (nI (gm_name cs (sA i0) (eA i0))), .int (nI 0), .int (iv 40), .ref (ad 41), .ref (ad 42), .int (iv 43)]))) := w
            obtain ⟨h186, u189⟩ : ∃ z, z = pd_up h28 y (20, .inr (10, [.ref (ad 0), .ref (ad 1), .ref (ad 2), .int (iv 3), .int (iv 4), .int (iv 5), .ref (ad 6), .ref (ad 7), .ref (ad 8), .ref (ad 9), .ref (ad 10), .ref (ad 11), .int (iv 12), .ref (ad 13), .ref (ad 14), .ref (ad 15), .ref (ad 16), .ref (ad 17), .ref (ad 18), .ref (ad 19), .int (iv 20), .ref (ad 21), .ref (ad 22), .ref (ad 23), .ref (ad 24), .ref (ad 25), .ref (ad 26), .ref (ad 27), .ref (ad 28), .int (iv 29), .ref (ad 30), .ref (ad 31), .int (iv 32), .int (iv 33), .int (iv 34), .int (iv 35), .long tl, .int (nI 0), .int (nI (gm_name cs (sA i0) (eA i0))), .int (nI 0), .int (iv 40), .ref (ad 41), .ref (ad 42), .int (iv 43)])) := ⟨_, rfl⟩
            rw [← u189] at w
            have k187 : pd_kq y h28 h186 := by rw [u189]; exact pd_up_kq
            have f188 : h186 y = some (20, .inr (10, [.ref (ad 0), .ref (ad 1), .ref (ad 2), .int (iv 3), .int (iv 4), .int (iv 5), .ref (ad 6), .ref (ad 7), .ref (ad 8), .ref (ad 9), .ref (ad 10), .ref (ad 11), .int (iv 12), .ref (ad 13), .ref (ad 14), .ref (ad 15), .ref (ad 16), .ref (ad 17), .ref (ad 18), .ref (ad 19), .int (iv 20), .ref (ad 21), .ref (ad 22), .ref (ad 23), .ref (ad 24), .ref (ad 25), .ref (ad 26), .ref (ad 27), .ref (ad 28), .int (iv 29), .ref (ad 30), .ref (ad 31), .int (iv 32), .int (iv 33), .int (iv 34), .int (iv 35), .long tl, .int (nI 0), .int (nI (gm_name cs (sA i0) (eA i0))), .int (nI 0), .int (iv 40), .ref (ad 41), .ref (ad 42), .int (iv 43)])) := by rw [u189]; exact pd_up_s _ _ _
            have f190 := k187 _ _ (pd_ne f32 f30 (by simp)) f32
            have f191 := k187 _ _ (pd_ne f33 f30 (by simp)) f33
            have f192 := k187 _ _ (pd_ne f34 f30 (by simp)) f34
            refine lv_aload_n hx hb d_p15m16_164 rfl (lv_at hl 2 rfl) ?_
            refine lv_iload_n hx hb d_p15m16_165 rfl (lv_at hl 1 rfl) ?_
            refine pd_put (ty := .int) X w f188 hz_y rfl 40 (by decide) mT_1179 rfl rfl (by decide +kernel) rfl rfl (Nat.le_of_ble_eq_true rfl) d_p15m16_166 (fun H locs w => ?_)
            have w : pd_w G s H locs (pd_up h186 y (20, .inr (10, [.ref (ad 0), .ref (ad 1), .ref (ad 2), .int (iv 3), .int (iv 4), .int (iv 5), .ref (ad 6), .ref (ad 7), .ref (ad 8), .ref (ad 9), .ref (ad 10), .ref (ad 11), .int (iv 12), .ref (ad 13), .ref (ad 14), .ref (ad 15), .ref (ad 16), .ref (ad 17), .ref (ad 18), .ref (ad 19), .int (iv 20), .ref (ad 21), .ref (ad 22), .ref (ad 23), .ref (ad 24), .ref (ad 25), .ref (ad 26), .ref (ad 27), .ref (ad 28), .int (iv 29), .ref (ad 30), .ref (ad 31), .int (iv 32), .int (iv 33), .int (iv 34), .int (iv 35), .long tl, .int (nI 0), .int (nI (gm_name cs (sA i0) (eA i0))), .int (nI 0), .int (nI (eA i0)), .ref (ad 41), .ref (ad 42), .int (iv 43)]))) := w
            obtain ⟨h193, u196⟩ : ∃ z, z = pd_up h186 y (20, .inr (10, [.ref (ad 0), .ref (ad 1), .ref (ad 2), .int (iv 3), .int (iv 4), .int (iv 5), .ref (ad 6), .ref (ad 7), .ref (ad 8), .ref (ad 9), .ref (ad 10), .ref (ad 11), .int (iv 12), .ref (ad 13), .ref (ad 14), .ref (ad 15), .ref (ad 16), .ref (ad 17), .ref (ad 18), .ref (ad 19), .int (iv 20), .ref (ad 21), .ref (ad 22), .ref (ad 23), .ref (ad 24), .ref (ad 25), .ref (ad 26), .ref (ad 27), .ref (ad 28), .int (iv 29), .ref (ad 30), .ref (ad 31), .int (iv 32), .int (iv 33), .int (iv 34), .int (iv 35), .long tl, .int (nI 0), .int (nI (gm_name cs (sA i0) (eA i0))), .int (nI 0), .int (nI (eA i0)), .ref (ad 41), .ref (ad 42), .int (iv 43)])) := ⟨_, rfl⟩
            rw [← u196] at w
            have k194 : pd_kq y h186 h193 := by rw [u196]; exact pd_up_kq
            have f195 : h193 y = some (20, .inr (10, [.ref (ad 0), .ref (ad 1), .ref (ad 2), .int (iv 3), .int (iv 4), .int (iv 5), .ref (ad 6), .ref (ad 7), .ref (ad 8), .ref (ad 9), .ref (ad 10), .ref (ad 11), .int (iv 12), .ref (ad 13), .ref (ad 14), .ref (ad 15), .ref (ad 16), .ref (ad 17), .ref (ad 18), .ref (ad 19), .int (iv 20), .ref (ad 21), .ref (ad 22), .ref (ad 23), .ref (ad 24), .ref (ad 25), .ref (ad 26), .ref (ad 27), .ref (ad 28), .int (iv 29), .ref (ad 30), .ref (ad 31), .int (iv 32), .int (iv 33), .int (iv 34), .int (iv 35), .long tl, .int (nI 0), .int (nI (gm_name cs (sA i0) (eA i0))), .int (nI 0), .int (nI (eA i0)), .ref (ad 41), .ref (ad 42), .int (iv 43)])) := by rw [u196]; exact pd_up_s _ _ _
            have f197 := k194 _ _ (pd_ne f190 f188 (by simp)) f190
            have f198 := k194 _ _ (pd_ne f191 f188 (by simp)) f191
            have f199 := k194 _ _ (pd_ne f192 f188 (by simp)) f192
            refine lv_iload_n hx hb d_p15m16_169 rfl (lv_at hl 0 rfl) ?_
            refine lv_iload_n hx hb d_p15m16_170 rfl (lv_at hl 1 rfl) ?_
            refine pd_jne (tgt := 176) hx hb d_p15m16_171 (by decide) (by omega) (by omega) (fun q200 => ?_) (fun q200 => ?_)
            · -- taken: 176
              refine lv_aload_n hx hb d_p15m16_176 rfl (lv_at hl 2 rfl) ?_
              refine pd_get X w f195 rfl 0 (by decide) mT_1139 rfl rfl d_p15m16_177 ?_
              refine lv_iload_n hx hb d_p15m16_180 rfl (lv_at hl 0 rfl) ?_
              refine pd_iald X w f197 (by omega) (by omega) d_p15m16_181 ?_
              refine pd_top (v' := .int (nI (cs.getD (gm_name cs (sA i0) (eA i0)) 0))) (congrArg Value.int (hln _ (by omega))) ?_
              have := tx_lt hlc (gm_name cs (sA i0) (eA i0))
              refine lv_bipush (v := nI 46) hx hb d_p15m16_182 (by decide) ?_
              refine pd_jne (tgt := 194) hx hb d_p15m16_184 (by decide) (by omega) (by omega) (fun q201 => ?_) (fun q201 => ?_)
              · -- taken: 194
                refine lv_iconst (v := nI 0) hx hb d_p15m16_194 (by decide) ?_
                have hpt : gm_pt cs (gm_name cs (sA i0) (eA i0)) (eA i0) = none := by unfold gm_pt; rw [if_neg (by omega), if_pos (by omega)]
                have hp : gm_pat cs (sA i0) (eA i0) = none := by unfold gm_pat; rw [hph]; simp only [hpt]
                refine W.eq (g2 := F0 m 195 ls [.int (pd_b false)]) rfl ?_
                exact pd_zret (v := false) X w ⟨by rw [hp]; rfl, pd_kx.tr (pd_kx.tr (pd_kx.tr (pd_kx.tr (pd_kx.tr (pd_kq.kx (k2) hy0) (pd_kq.kx (k9) f3)) (pd_kq.kx (k22) f10)) (pd_kq.kx (k29) f23)) (pd_kq.kx (k187) f30)) (pd_kq.kx (k194) f188), (nI 0), (nI (gm_name cs (sA i0) (eA i0))), (nI 0), (nI (eA i0)), (pd_MO.of (fv2 := fv) (iv2 := pd_fu (pd_fu (pd_fu (pd_fu iv 37 (nI 0)) 38 (nI (gm_name cs (sA i0) (eA i0)))) 39 (nI 0)) 40 (nI (eA i0))) (tl2 := tl) (ts := [20]) hMO (pd_kx.tr (pd_kx.tr (pd_kx.tr (pd_kx.tr (pd_kx.tr (pd_kq.kx (k2) hy0) (pd_kq.kx (k9) f3)) (pd_kq.kx (k22) f10)) (pd_kq.kx (k29) f23)) (pd_kq.kx (k187) f30)) (pd_kq.kx (k194) f188)) f195 (fun j hj => Or.inr ⟨fun z => by first | (simp at z; done) | (simp at z; omega), rfl⟩)), fun t9 ht9 => by rw [hp] at ht9; cases ht9⟩ (by decide) (by decide) d_p15m16_195
              · -- not taken: 187
                refine lv_iload_n hx hb d_p15m16_187 rfl (lv_at hl 0 rfl) ?_
                refine lv_iconst (v := nI 1) hx hb d_p15m16_188 (by decide) ?_
                refine pd_iadd hx hb d_p15m16_189 ?_
                refine lv_iload_n hx hb d_p15m16_190 rfl (lv_at hl 1 rfl) ?_
                refine pd_jne (tgt := 196) hx hb d_p15m16_191 (by decide) (by omega) (by omega) (fun q202 => ?_) (fun q202 => ?_)
                · -- taken: 196
                  refine lv_aload_n hx hb d_p15m16_196 rfl (lv_at hl 2 rfl) ?_
                  refine lv_aload_n hx hb d_p15m16_197 rfl (lv_at hl 2 rfl) ?_
                  refine pd_get X w f195 rfl 0 (by decide) mT_1139 rfl rfl d_p15m16_198 ?_
                  refine lv_iload_n hx hb d_p15m16_201 rfl (lv_at hl 0 rfl) ?_
                  refine lv_iconst (v := nI 1) hx hb d_p15m16_202 (by decide) ?_
                  refine pd_iadd hx hb d_p15m16_203 ?_
                  refine pd_iald X w f197 (by omega) (by omega) d_p15m16_204 ?_
                  refine pd_top (v' := .int (nI (cs.getD ((gm_name cs (sA i0) (eA i0)) + 1) 0))) (congrArg Value.int (hln _ (by omega))) ?_
                  have := tx_lt hlc ((gm_name cs (sA i0) (eA i0)) + 1)
                  refine lv_bipush (v := nI 42) hx hb d_p15m16_205 (by decide) ?_
                  refine pd_jne (tgt := 221) hx hb d_p15m16_207 (by decide) (by omega) (by omega) (fun q203 => ?_) (fun q203 => ?_)
                  · -- taken: 221
                    refine lv_iconst (v := nI 2) hx hb d_p15m16_221 (by decide) ?_
                    refine pd_put (ty := .int) X w f195 hz_y rfl 39 (by decide) mT_1178 rfl rfl (by decide +kernel) rfl rfl (Nat.le_of_ble_eq_true rfl) d_p15m16_222 (fun H locs w => ?_)
                    have w : pd_w G s H locs (pd_up h193 y (20, .inr (10, [.ref (ad 0), .ref (ad 1), .ref (ad 2), .int (iv 3), .int (iv 4), .int (iv 5), .ref (ad 6), .ref (ad 7), .ref (ad 8), .ref (ad 9), .ref (ad 10), .ref (ad 11), .int (iv 12), .ref (ad 13), .ref (ad 14), .ref (ad 15), .ref (ad 16), .ref (ad 17), .ref (ad 18), .ref (ad 19), .int (iv 20), .ref (ad 21), .ref (ad 22), .ref (ad 23), .ref (ad 24), .ref (ad 25), .ref (ad 26), .ref (ad 27), .ref (ad 28), .int (iv 29), .ref (ad 30), .ref (ad 31), .int (iv 32), .int (iv 33), .int (iv 34), .int (iv 35), .long tl, .int (nI 0), .int (nI (gm_name cs (sA i0) (eA i0))), .int (nI 2), .int (nI (eA i0)), .ref (ad 41), .ref (ad 42), .int (iv 43)]))) := w
                    obtain ⟨h204, u207⟩ : ∃ z, z = pd_up h193 y (20, .inr (10, [.ref (ad 0), .ref (ad 1), .ref (ad 2), .int (iv 3), .int (iv 4), .int (iv 5), .ref (ad 6), .ref (ad 7), .ref (ad 8), .ref (ad 9), .ref (ad 10), .ref (ad 11), .int (iv 12), .ref (ad 13), .ref (ad 14), .ref (ad 15), .ref (ad 16), .ref (ad 17), .ref (ad 18), .ref (ad 19), .int (iv 20), .ref (ad 21), .ref (ad 22), .ref (ad 23), .ref (ad 24), .ref (ad 25), .ref (ad 26), .ref (ad 27), .ref (ad 28), .int (iv 29), .ref (ad 30), .ref (ad 31), .int (iv 32), .int (iv 33), .int (iv 34), .int (iv 35), .long tl, .int (nI 0), .int (nI (gm_name cs (sA i0) (eA i0))), .int (nI 2), .int (nI (eA i0)), .ref (ad 41), .ref (ad 42), .int (iv 43)])) := ⟨_, rfl⟩
                    rw [← u207] at w
                    have k205 : pd_kq y h193 h204 := by rw [u207]; exact pd_up_kq
                    have f206 : h204 y = some (20, .inr (10, [.ref (ad 0), .ref (ad 1), .ref (ad 2), .int (iv 3), .int (iv 4), .int (iv 5), .ref (ad 6), .ref (ad 7), .ref (ad 8), .ref (ad 9), .ref (ad 10), .ref (ad 11), .int (iv 12), .ref (ad 13), .ref (ad 14), .ref (ad 15), .ref (ad 16), .ref (ad 17), .ref (ad 18), .ref (ad 19), .int (iv 20), .ref (ad 21), .ref (ad 22), .ref (ad 23), .ref (ad 24), .ref (ad 25), .ref (ad 26), .ref (ad 27), .ref (ad 28), .int (iv 29), .ref (ad 30), .ref (ad 31), .int (iv 32), .int (iv 33), .int (iv 34), .int (iv 35), .long tl, .int (nI 0), .int (nI (gm_name cs (sA i0) (eA i0))), .int (nI 2), .int (nI (eA i0)), .ref (ad 41), .ref (ad 42), .int (iv 43)])) := by rw [u207]; exact pd_up_s _ _ _
                    have f208 := k205 _ _ (pd_ne f197 f195 (by simp)) f197
                    have f209 := k205 _ _ (pd_ne f198 f195 (by simp)) f198
                    have f210 := k205 _ _ (pd_ne f199 f195 (by simp)) f199
                    refine lv_aload_n hx hb d_p15m16_225 rfl (lv_at hl 2 rfl) ?_
                    refine lv_iload_n hx hb d_p15m16_226 rfl (lv_at hl 0 rfl) ?_
                    refine lv_iconst (v := nI 1) hx hb d_p15m16_227 (by decide) ?_
                    refine pd_iadd hx hb d_p15m16_228 ?_
                    refine pd_put (ty := .int) X w f206 hz_y rfl 40 (by decide) mT_1179 rfl rfl (by decide +kernel) rfl rfl (Nat.le_of_ble_eq_true rfl) d_p15m16_229 (fun H locs w => ?_)
                    have w : pd_w G s H locs (pd_up h204 y (20, .inr (10, [.ref (ad 0), .ref (ad 1), .ref (ad 2), .int (iv 3), .int (iv 4), .int (iv 5), .ref (ad 6), .ref (ad 7), .ref (ad 8), .ref (ad 9), .ref (ad 10), .ref (ad 11), .int (iv 12), .ref (ad 13), .ref (ad 14), .ref (ad 15), .ref (ad 16), .ref (ad 17), .ref (ad 18), .ref (ad 19), .int (iv 20), .ref (ad 21), .ref (ad 22), .ref (ad 23), .ref (ad 24), .ref (ad 25), .ref (ad 26), .ref (ad 27), .ref (ad 28), .int (iv 29), .ref (ad 30), .ref (ad 31), .int (iv 32), .int (iv 33), .int (iv 34), .int (iv 35), .long tl, .int (nI 0), .int (nI (gm_name cs (sA i0) (eA i0))), .int (nI 2), .int (nI ((gm_name cs (sA i0) (eA i0)) + 1)), .ref (ad 41), .ref (ad 42), .int (iv 43)]))) := w
                    obtain ⟨h211, u214⟩ : ∃ z, z = pd_up h204 y (20, .inr (10, [.ref (ad 0), .ref (ad 1), .ref (ad 2), .int (iv 3), .int (iv 4), .int (iv 5), .ref (ad 6), .ref (ad 7), .ref (ad 8), .ref (ad 9), .ref (ad 10), .ref (ad 11), .int (iv 12), .ref (ad 13), .ref (ad 14), .ref (ad 15), .ref (ad 16), .ref (ad 17), .ref (ad 18), .ref (ad 19), .int (iv 20), .ref (ad 21), .ref (ad 22), .ref (ad 23), .ref (ad 24), .ref (ad 25), .ref (ad 26), .ref (ad 27), .ref (ad 28), .int (iv 29), .ref (ad 30), .ref (ad 31), .int (iv 32), .int (iv 33), .int (iv 34), .int (iv 35), .long tl, .int (nI 0), .int (nI (gm_name cs (sA i0) (eA i0))), .int (nI 2), .int (nI ((gm_name cs (sA i0) (eA i0)) + 1)), .ref (ad 41), .ref (ad 42), .int (iv 43)])) := ⟨_, rfl⟩
                    rw [← u214] at w
                    have k212 : pd_kq y h204 h211 := by rw [u214]; exact pd_up_kq
                    have f213 : h211 y = some (20, .inr (10, [.ref (ad 0), .ref (ad 1), .ref (ad 2), .int (iv 3), .int (iv 4), .int (iv 5), .ref (ad 6), .ref (ad 7), .ref (ad 8), .ref (ad 9), .ref (ad 10), .ref (ad 11), .int (iv 12), .ref (ad 13), .ref (ad 14), .ref (ad 15), .ref (ad 16), .ref (ad 17), .ref (ad 18), .ref (ad 19), .int (iv 20), .ref (ad 21), .ref (ad 22), .ref (ad 23), .ref (ad 24), .ref (ad 25), .ref (ad 26), .ref (ad 27), .ref (ad 28), .int (iv 29), .ref (ad 30), .ref (ad 31), .int (iv 32), .int (iv 33), .int (iv 34), .int (iv 35), .long tl, .int (nI 0), .int (nI (gm_name cs (sA i0) (eA i0))), .int (nI 2), .int (nI ((gm_name cs (sA i0) (eA i0)) + 1)), .ref (ad 41), .ref (ad 42), .int (iv 43)])) := by rw [u214]; exact pd_up_s _ _ _
                    have f215 := k212 _ _ (pd_ne f208 f206 (by simp)) f208
                    have f216 := k212 _ _ (pd_ne f209 f206 (by simp)) f209
                    have f217 := k212 _ _ (pd_ne f210 f206 (by simp)) f210
                    refine lv_aload_n hx hb d_p15m16_232 rfl (lv_at hl 2 rfl) ?_
                    refine pd_get X w f213 rfl 39 (by decide) mT_1178 rfl rfl d_p15m16_233 ?_
                    refine lv_iconst (v := nI 1) hx hb d_p15m16_236 (by decide) ?_
                    refine pd_jeq (tgt := 252) hx hb d_p15m16_237 (by decide) (by decide) (by decide) (fun q => absurd q (by decide)) (fun _ => ?_)
                    refine lv_aload_n hx hb d_p15m16_240 rfl (lv_at hl 2 rfl) ?_
                    refine lv_iload_n hx hb d_p15m16_241 rfl (lv_at hl 0 rfl) ?_
                    refine lv_iconst (v := nI 1) hx hb d_p15m16_242 (by decide) ?_
                    refine pd_iadd hx hb d_p15m16_243 ?_
                    refine lv_iload_n hx hb d_p15m16_244 rfl (lv_at hl 1 rfl) ?_
                    refine pd_cV (a := y) (As := [.int (nI ((gm_name cs (sA i0) (eA i0)) + 1)), .int (nI (eA i0))]) (rest := []) X w f213 rfl (c_PolicyDeskModel_behindPart l G h211 (ad := ad) (fv := fv) (iv := pd_fu (pd_fu (pd_fu (pd_fu iv 37 (nI 0)) 38 (nI (gm_name cs (sA i0) (eA i0)))) 39 (nI 2)) 40 (nI ((gm_name cs (sA i0) (eA i0)) + 1))) (tl := tl) (pd_MO.of (fv2 := fv) (iv2 := pd_fu (pd_fu (pd_fu (pd_fu iv 37 (nI 0)) 38 (nI (gm_name cs (sA i0) (eA i0)))) 39 (nI 2)) 40 (nI ((gm_name cs (sA i0) (eA i0)) + 1))) (tl2 := tl) (ts := [20]) hMO (pd_kx.tr (pd_kx.tr (pd_kx.tr (pd_kx.tr (pd_kx.tr (pd_kx.tr (pd_kx.tr (pd_kq.kx (k2) hy0) (pd_kq.kx (k9) f3)) (pd_kq.kx (k22) f10)) (pd_kq.kx (k29) f23)) (pd_kq.kx (k187) f30)) (pd_kq.kx (k194) f188)) (pd_kq.kx (k205) f195)) (pd_kq.kx (k212) f206)) f213 (fun j hj => Or.inr ⟨fun z => by first | (simp at z; done) | (simp at z; omega), rfl⟩)) hL (by omega) (by omega)) ok_PolicyDeskModel_behindPart ⟨mT_1315, sT_19⟩ mT_1313 ⟨by decide, by decide⟩ rfl hl.1 rfl (Nat.le_of_ble_eq_true rfl) d_p15m16_245 ⟨by decide, by decide⟩ (fun r219 h220 H locs hp221 w => ?_)
                    refine W.widen (k := 0) (n := 0) (by decide) (by decide) ?_
                    obtain ⟨e222, rfl⟩ := hp221
                    have hpl := gm_part_le (cs := cs) (x := gm_name cs (sA i0) (eA i0) + 1) (to := eA i0) (by omega)
                    refine lv_iload_n hx hb d_p15m16_248 rfl (lv_at hl 1 rfl) ?_
                    refine pd_jne (tgt := 256) hx hb d_p15m16_249 (by decide) (by omega) (by omega) (fun q223 => ?_) (fun q223 => ?_)
                    · -- taken: 256
                      refine lv_iconst (v := nI 0) hx hb d_p15m16_256 (by decide) ?_
                      have hpt : gm_pt cs (gm_name cs (sA i0) (eA i0)) (eA i0) = none := by unfold gm_pt; rw [if_neg (by omega), if_neg (by omega), if_neg (by omega), if_neg (by rw [← e222]; omega)]
                      have hp : gm_pat cs (sA i0) (eA i0) = none := by unfold gm_pat; rw [hph]; simp only [hpt]
                      refine W.eq (g2 := F0 m 257 ls [.int (pd_b false)]) rfl ?_
                      exact pd_zret (v := false) X w ⟨by rw [hp]; rfl, pd_kx.tr (pd_kx.tr (pd_kx.tr (pd_kx.tr (pd_kx.tr (pd_kx.tr (pd_kx.tr (pd_kq.kx (k2) hy0) (pd_kq.kx (k9) f3)) (pd_kq.kx (k22) f10)) (pd_kq.kx (k29) f23)) (pd_kq.kx (k187) f30)) (pd_kq.kx (k194) f188)) (pd_kq.kx (k205) f195)) (pd_kq.kx (k212) f206), (nI 0), (nI (gm_name cs (sA i0) (eA i0))), (nI 2), (nI ((gm_name cs (sA i0) (eA i0)) + 1)), (pd_MO.of (fv2 := fv) (iv2 := pd_fu (pd_fu (pd_fu (pd_fu iv 37 (nI 0)) 38 (nI (gm_name cs (sA i0) (eA i0)))) 39 (nI 2)) 40 (nI ((gm_name cs (sA i0) (eA i0)) + 1))) (tl2 := tl) (ts := [20]) hMO (pd_kx.tr (pd_kx.tr (pd_kx.tr (pd_kx.tr (pd_kx.tr (pd_kx.tr (pd_kx.tr (pd_kq.kx (k2) hy0) (pd_kq.kx (k9) f3)) (pd_kq.kx (k22) f10)) (pd_kq.kx (k29) f23)) (pd_kq.kx (k187) f30)) (pd_kq.kx (k194) f188)) (pd_kq.kx (k205) f195)) (pd_kq.kx (k212) f206)) f213 (fun j hj => Or.inr ⟨fun z => by first | (simp at z; done) | (simp at z; omega), rfl⟩)), fun t9 ht9 => by rw [hp] at ht9; cases ht9⟩ (by decide) (by decide) d_p15m16_257
                    · -- not taken: 252
                      refine lv_iconst (v := nI 1) hx hb d_p15m16_252 (by decide) ?_
                      refine lv_goto (tgt := 257) hx hb d_p15m16_253 (by decide) ?_
                      have hpt : gm_pt cs (gm_name cs (sA i0) (eA i0)) (eA i0) = some (2, gm_name cs (sA i0) (eA i0) + 1) := by unfold gm_pt; rw [if_neg (by omega), if_neg (by omega), if_neg (by omega), if_pos (by rw [← e222]; omega)]
                      have hp : gm_pat cs (sA i0) (eA i0) = some (0, gm_name cs (sA i0) (eA i0), 2, gm_name cs (sA i0) (eA i0) + 1) := by unfold gm_pat; rw [hph]; simp only [hpt]
                      refine W.eq (g2 := F0 m 257 ls [.int (pd_b true)]) rfl ?_
                      exact pd_zret (v := true) X w ⟨by rw [hp]; rfl, pd_kx.tr (pd_kx.tr (pd_kx.tr (pd_kx.tr (pd_kx.tr (pd_kx.tr (pd_kx.tr (pd_kq.kx (k2) hy0) (pd_kq.kx (k9) f3)) (pd_kq.kx (k22) f10)) (pd_kq.kx (k29) f23)) (pd_kq.kx (k187) f30)) (pd_kq.kx (k194) f188)) (pd_kq.kx (k205) f195)) (pd_kq.kx (k212) f206), (nI 0), (nI (gm_name cs (sA i0) (eA i0))), (nI 2), (nI ((gm_name cs (sA i0) (eA i0)) + 1)), (pd_MO.of (fv2 := fv) (iv2 := pd_fu (pd_fu (pd_fu (pd_fu iv 37 (nI 0)) 38 (nI (gm_name cs (sA i0) (eA i0)))) 39 (nI 2)) 40 (nI ((gm_name cs (sA i0) (eA i0)) + 1))) (tl2 := tl) (ts := [20]) hMO (pd_kx.tr (pd_kx.tr (pd_kx.tr (pd_kx.tr (pd_kx.tr (pd_kx.tr (pd_kx.tr (pd_kq.kx (k2) hy0) (pd_kq.kx (k9) f3)) (pd_kq.kx (k22) f10)) (pd_kq.kx (k29) f23)) (pd_kq.kx (k187) f30)) (pd_kq.kx (k194) f188)) (pd_kq.kx (k205) f195)) (pd_kq.kx (k212) f206)) f213 (fun j hj => Or.inr ⟨fun z => by first | (simp at z; done) | (simp at z; omega), rfl⟩)), fun t9 ht9 => by rw [hp] at ht9; cases ht9; exact ⟨rfl, rfl, rfl, rfl⟩⟩ (by decide) (by decide) d_p15m16_257
                  · -- not taken: 210
                    refine lv_iload_n hx hb d_p15m16_210 rfl (lv_at hl 0 rfl) ?_
                    refine lv_iconst (v := nI 2) hx hb d_p15m16_211 (by decide) ?_
                    refine pd_iadd hx hb d_p15m16_212 ?_
                    refine lv_iload_n hx hb d_p15m16_213 rfl (lv_at hl 1 rfl) ?_
                    refine pd_jne (tgt := 221) hx hb d_p15m16_214 (by decide) (by omega) (by omega) (fun q224 => ?_) (fun q224 => ?_)
                    · -- taken: 221
                      refine lv_iconst (v := nI 2) hx hb d_p15m16_221 (by decide) ?_
                      refine pd_put (ty := .int) X w f195 hz_y rfl 39 (by decide) mT_1178 rfl rfl (by decide +kernel) rfl rfl (Nat.le_of_ble_eq_true rfl) d_p15m16_222 (fun H locs w => ?_)
                      have w : pd_w G s H locs (pd_up h193 y (20, .inr (10, [.ref (ad 0), .ref (ad 1), .ref (ad 2), .int (iv 3), .int (iv 4), .int (iv 5), .ref (ad 6), .ref (ad 7), .ref (ad 8), .ref (ad 9), .ref (ad 10), .ref (ad 11), .int (iv 12), .ref (ad 13), .ref (ad 14), .ref (ad 15), .ref (ad 16), .ref (ad 17), .ref (ad 18), .ref (ad 19), .int (iv 20), .ref (ad 21), .ref (ad 22), .ref (ad 23), .ref (ad 24), .ref (ad 25), .ref (ad 26), .ref (ad 27), .ref (ad 28), .int (iv 29), .ref (ad 30), .ref (ad 31), .int (iv 32), .int (iv 33), .int (iv 34), .int (iv 35), .long tl, .int (nI 0), .int (nI (gm_name cs (sA i0) (eA i0))), .int (nI 2), .int (nI (eA i0)), .ref (ad 41), .ref (ad 42), .int (iv 43)]))) := w
                      obtain ⟨h225, u228⟩ : ∃ z, z = pd_up h193 y (20, .inr (10, [.ref (ad 0), .ref (ad 1), .ref (ad 2), .int (iv 3), .int (iv 4), .int (iv 5), .ref (ad 6), .ref (ad 7), .ref (ad 8), .ref (ad 9), .ref (ad 10), .ref (ad 11), .int (iv 12), .ref (ad 13), .ref (ad 14), .ref (ad 15), .ref (ad 16), .ref (ad 17), .ref (ad 18), .ref (ad 19), .int (iv 20), .ref (ad 21), .ref (ad 22), .ref (ad 23), .ref (ad 24), .ref (ad 25), .ref (ad 26), .ref (ad 27), .ref (ad 28), .int (iv 29), .ref (ad 30), .ref (ad 31), .int (iv 32), .int (iv 33), .int (iv 34), .int (iv 35), .long tl, .int (nI 0), .int (nI (gm_name cs (sA i0) (eA i0))), .int (nI 2), .int (nI (eA i0)), .ref (ad 41), .ref (ad 42), .int (iv 43)])) := ⟨_, rfl⟩
                      rw [← u228] at w
                      have k226 : pd_kq y h193 h225 := by rw [u228]; exact pd_up_kq
                      have f227 : h225 y = some (20, .inr (10, [.ref (ad 0), .ref (ad 1), .ref (ad 2), .int (iv 3), .int (iv 4), .int (iv 5), .ref (ad 6), .ref (ad 7), .ref (ad 8), .ref (ad 9), .ref (ad 10), .ref (ad 11), .int (iv 12), .ref (ad 13), .ref (ad 14), .ref (ad 15), .ref (ad 16), .ref (ad 17), .ref (ad 18), .ref (ad 19), .int (iv 20), .ref (ad 21), .ref (ad 22), .ref (ad 23), .ref (ad 24), .ref (ad 25), .ref (ad 26), .ref (ad 27), .ref (ad 28), .int (iv 29), .ref (ad 30), .ref (ad 31), .int (iv 32), .int (iv 33), .int (iv 34), .int (iv 35), .long tl, .int (nI 0), .int (nI (gm_name cs (sA i0) (eA i0))), .int (nI 2), .int (nI (eA i0)), .ref (ad 41), .ref (ad 42), .int (iv 43)])) := by rw [u228]; exact pd_up_s _ _ _
                      have f229 := k226 _ _ (pd_ne f197 f195 (by simp)) f197
                      have f230 := k226 _ _ (pd_ne f198 f195 (by simp)) f198
                      have f231 := k226 _ _ (pd_ne f199 f195 (by simp)) f199
                      refine lv_aload_n hx hb d_p15m16_225 rfl (lv_at hl 2 rfl) ?_
                      refine lv_iload_n hx hb d_p15m16_226 rfl (lv_at hl 0 rfl) ?_
                      refine lv_iconst (v := nI 1) hx hb d_p15m16_227 (by decide) ?_
                      refine pd_iadd hx hb d_p15m16_228 ?_
                      refine pd_put (ty := .int) X w f227 hz_y rfl 40 (by decide) mT_1179 rfl rfl (by decide +kernel) rfl rfl (Nat.le_of_ble_eq_true rfl) d_p15m16_229 (fun H locs w => ?_)
                      have w : pd_w G s H locs (pd_up h225 y (20, .inr (10, [.ref (ad 0), .ref (ad 1), .ref (ad 2), .int (iv 3), .int (iv 4), .int (iv 5), .ref (ad 6), .ref (ad 7), .ref (ad 8), .ref (ad 9), .ref (ad 10), .ref (ad 11), .int (iv 12), .ref (ad 13), .ref (ad 14), .ref (ad 15), .ref (ad 16), .ref (ad 17), .ref (ad 18), .ref (ad 19), .int (iv 20), .ref (ad 21), .ref (ad 22), .ref (ad 23), .ref (ad 24), .ref (ad 25), .ref (ad 26), .ref (ad 27), .ref (ad 28), .int (iv 29), .ref (ad 30), .ref (ad 31), .int (iv 32), .int (iv 33), .int (iv 34), .int (iv 35), .long tl, .int (nI 0), .int (nI (gm_name cs (sA i0) (eA i0))), .int (nI 2), .int (nI ((gm_name cs (sA i0) (eA i0)) + 1)), .ref (ad 41), .ref (ad 42), .int (iv 43)]))) := w
                      obtain ⟨h232, u235⟩ : ∃ z, z = pd_up h225 y (20, .inr (10, [.ref (ad 0), .ref (ad 1), .ref (ad 2), .int (iv 3), .int (iv 4), .int (iv 5), .ref (ad 6), .ref (ad 7), .ref (ad 8), .ref (ad 9), .ref (ad 10), .ref (ad 11), .int (iv 12), .ref (ad 13), .ref (ad 14), .ref (ad 15), .ref (ad 16), .ref (ad 17), .ref (ad 18), .ref (ad 19), .int (iv 20), .ref (ad 21), .ref (ad 22), .ref (ad 23), .ref (ad 24), .ref (ad 25), .ref (ad 26), .ref (ad 27), .ref (ad 28), .int (iv 29), .ref (ad 30), .ref (ad 31), .int (iv 32), .int (iv 33), .int (iv 34), .int (iv 35), .long tl, .int (nI 0), .int (nI (gm_name cs (sA i0) (eA i0))), .int (nI 2), .int (nI ((gm_name cs (sA i0) (eA i0)) + 1)), .ref (ad 41), .ref (ad 42), .int (iv 43)])) := ⟨_, rfl⟩
                      rw [← u235] at w
                      have k233 : pd_kq y h225 h232 := by rw [u235]; exact pd_up_kq
                      have f234 : h232 y = some (20, .inr (10, [.ref (ad 0), .ref (ad 1), .ref (ad 2), .int (iv 3), .int (iv 4), .int (iv 5), .ref (ad 6), .ref (ad 7), .ref (ad 8), .ref (ad 9), .ref (ad 10), .ref (ad 11), .int (iv 12), .ref (ad 13), .ref (ad 14), .ref (ad 15), .ref (ad 16), .ref (ad 17), .ref (ad 18), .ref (ad 19), .int (iv 20), .ref (ad 21), .ref (ad 22), .ref (ad 23), .ref (ad 24), .ref (ad 25), .ref (ad 26), .ref (ad 27), .ref (ad 28), .int (iv 29), .ref (ad 30), .ref (ad 31), .int (iv 32), .int (iv 33), .int (iv 34), .int (iv 35), .long tl, .int (nI 0), .int (nI (gm_name cs (sA i0) (eA i0))), .int (nI 2), .int (nI ((gm_name cs (sA i0) (eA i0)) + 1)), .ref (ad 41), .ref (ad 42), .int (iv 43)])) := by rw [u235]; exact pd_up_s _ _ _
                      have f236 := k233 _ _ (pd_ne f229 f227 (by simp)) f229
                      have f237 := k233 _ _ (pd_ne f230 f227 (by simp)) f230
                      have f238 := k233 _ _ (pd_ne f231 f227 (by simp)) f231
                      refine lv_aload_n hx hb d_p15m16_232 rfl (lv_at hl 2 rfl) ?_
                      refine pd_get X w f234 rfl 39 (by decide) mT_1178 rfl rfl d_p15m16_233 ?_
                      refine lv_iconst (v := nI 1) hx hb d_p15m16_236 (by decide) ?_
                      refine pd_jeq (tgt := 252) hx hb d_p15m16_237 (by decide) (by decide) (by decide) (fun q => absurd q (by decide)) (fun _ => ?_)
                      refine lv_aload_n hx hb d_p15m16_240 rfl (lv_at hl 2 rfl) ?_
                      refine lv_iload_n hx hb d_p15m16_241 rfl (lv_at hl 0 rfl) ?_
                      refine lv_iconst (v := nI 1) hx hb d_p15m16_242 (by decide) ?_
                      refine pd_iadd hx hb d_p15m16_243 ?_
                      refine lv_iload_n hx hb d_p15m16_244 rfl (lv_at hl 1 rfl) ?_
                      refine pd_cV (a := y) (As := [.int (nI ((gm_name cs (sA i0) (eA i0)) + 1)), .int (nI (eA i0))]) (rest := []) X w f234 rfl (c_PolicyDeskModel_behindPart l G h232 (ad := ad) (fv := fv) (iv := pd_fu (pd_fu (pd_fu (pd_fu iv 37 (nI 0)) 38 (nI (gm_name cs (sA i0) (eA i0)))) 39 (nI 2)) 40 (nI ((gm_name cs (sA i0) (eA i0)) + 1))) (tl := tl) (pd_MO.of (fv2 := fv) (iv2 := pd_fu (pd_fu (pd_fu (pd_fu iv 37 (nI 0)) 38 (nI (gm_name cs (sA i0) (eA i0)))) 39 (nI 2)) 40 (nI ((gm_name cs (sA i0) (eA i0)) + 1))) (tl2 := tl) (ts := [20]) hMO (pd_kx.tr (pd_kx.tr (pd_kx.tr (pd_kx.tr (pd_kx.tr (pd_kx.tr (pd_kx.tr (pd_kq.kx (k2) hy0) (pd_kq.kx (k9) f3)) (pd_kq.kx (k22) f10)) (pd_kq.kx (k29) f23)) (pd_kq.kx (k187) f30)) (pd_kq.kx (k194) f188)) (pd_kq.kx (k226) f195)) (pd_kq.kx (k233) f227)) f234 (fun j hj => Or.inr ⟨fun z => by first | (simp at z; done) | (simp at z; omega), rfl⟩)) hL (by omega) (by omega)) ok_PolicyDeskModel_behindPart ⟨mT_1315, sT_19⟩ mT_1313 ⟨by decide, by decide⟩ rfl hl.1 rfl (Nat.le_of_ble_eq_true rfl) d_p15m16_245 ⟨by decide, by decide⟩ (fun r240 h241 H locs hp242 w => ?_)
                      refine W.widen (k := 0) (n := 0) (by decide) (by decide) ?_
                      obtain ⟨e243, rfl⟩ := hp242
                      have hpl := gm_part_le (cs := cs) (x := gm_name cs (sA i0) (eA i0) + 1) (to := eA i0) (by omega)
                      refine lv_iload_n hx hb d_p15m16_248 rfl (lv_at hl 1 rfl) ?_
                      refine pd_jne (tgt := 256) hx hb d_p15m16_249 (by decide) (by omega) (by omega) (fun q244 => ?_) (fun q244 => ?_)
                      · -- taken: 256
                        refine lv_iconst (v := nI 0) hx hb d_p15m16_256 (by decide) ?_
                        have hpt : gm_pt cs (gm_name cs (sA i0) (eA i0)) (eA i0) = none := by unfold gm_pt; rw [if_neg (by omega), if_neg (by omega), if_neg (by omega), if_neg (by rw [← e243]; omega)]
                        have hp : gm_pat cs (sA i0) (eA i0) = none := by unfold gm_pat; rw [hph]; simp only [hpt]
                        refine W.eq (g2 := F0 m 257 ls [.int (pd_b false)]) rfl ?_
                        exact pd_zret (v := false) X w ⟨by rw [hp]; rfl, pd_kx.tr (pd_kx.tr (pd_kx.tr (pd_kx.tr (pd_kx.tr (pd_kx.tr (pd_kx.tr (pd_kq.kx (k2) hy0) (pd_kq.kx (k9) f3)) (pd_kq.kx (k22) f10)) (pd_kq.kx (k29) f23)) (pd_kq.kx (k187) f30)) (pd_kq.kx (k194) f188)) (pd_kq.kx (k226) f195)) (pd_kq.kx (k233) f227), (nI 0), (nI (gm_name cs (sA i0) (eA i0))), (nI 2), (nI ((gm_name cs (sA i0) (eA i0)) + 1)), (pd_MO.of (fv2 := fv) (iv2 := pd_fu (pd_fu (pd_fu (pd_fu iv 37 (nI 0)) 38 (nI (gm_name cs (sA i0) (eA i0)))) 39 (nI 2)) 40 (nI ((gm_name cs (sA i0) (eA i0)) + 1))) (tl2 := tl) (ts := [20]) hMO (pd_kx.tr (pd_kx.tr (pd_kx.tr (pd_kx.tr (pd_kx.tr (pd_kx.tr (pd_kx.tr (pd_kq.kx (k2) hy0) (pd_kq.kx (k9) f3)) (pd_kq.kx (k22) f10)) (pd_kq.kx (k29) f23)) (pd_kq.kx (k187) f30)) (pd_kq.kx (k194) f188)) (pd_kq.kx (k226) f195)) (pd_kq.kx (k233) f227)) f234 (fun j hj => Or.inr ⟨fun z => by first | (simp at z; done) | (simp at z; omega), rfl⟩)), fun t9 ht9 => by rw [hp] at ht9; cases ht9⟩ (by decide) (by decide) d_p15m16_257
                      · -- not taken: 252
                        refine lv_iconst (v := nI 1) hx hb d_p15m16_252 (by decide) ?_
                        refine lv_goto (tgt := 257) hx hb d_p15m16_253 (by decide) ?_
                        have hpt : gm_pt cs (gm_name cs (sA i0) (eA i0)) (eA i0) = some (2, gm_name cs (sA i0) (eA i0) + 1) := by unfold gm_pt; rw [if_neg (by omega), if_neg (by omega), if_neg (by omega), if_pos (by rw [← e243]; omega)]
                        have hp : gm_pat cs (sA i0) (eA i0) = some (0, gm_name cs (sA i0) (eA i0), 2, gm_name cs (sA i0) (eA i0) + 1) := by unfold gm_pat; rw [hph]; simp only [hpt]
                        refine W.eq (g2 := F0 m 257 ls [.int (pd_b true)]) rfl ?_
                        exact pd_zret (v := true) X w ⟨by rw [hp]; rfl, pd_kx.tr (pd_kx.tr (pd_kx.tr (pd_kx.tr (pd_kx.tr (pd_kx.tr (pd_kx.tr (pd_kq.kx (k2) hy0) (pd_kq.kx (k9) f3)) (pd_kq.kx (k22) f10)) (pd_kq.kx (k29) f23)) (pd_kq.kx (k187) f30)) (pd_kq.kx (k194) f188)) (pd_kq.kx (k226) f195)) (pd_kq.kx (k233) f227), (nI 0), (nI (gm_name cs (sA i0) (eA i0))), (nI 2), (nI ((gm_name cs (sA i0) (eA i0)) + 1)), (pd_MO.of (fv2 := fv) (iv2 := pd_fu (pd_fu (pd_fu (pd_fu iv 37 (nI 0)) 38 (nI (gm_name cs (sA i0) (eA i0)))) 39 (nI 2)) 40 (nI ((gm_name cs (sA i0) (eA i0)) + 1))) (tl2 := tl) (ts := [20]) hMO (pd_kx.tr (pd_kx.tr (pd_kx.tr (pd_kx.tr (pd_kx.tr (pd_kx.tr (pd_kx.tr (pd_kq.kx (k2) hy0) (pd_kq.kx (k9) f3)) (pd_kq.kx (k22) f10)) (pd_kq.kx (k29) f23)) (pd_kq.kx (k187) f30)) (pd_kq.kx (k194) f188)) (pd_kq.kx (k226) f195)) (pd_kq.kx (k233) f227)) f234 (fun j hj => Or.inr ⟨fun z => by first | (simp at z; done) | (simp at z; omega), rfl⟩)), fun t9 ht9 => by rw [hp] at ht9; cases ht9; exact ⟨rfl, rfl, rfl, rfl⟩⟩ (by decide) (by decide) d_p15m16_257
                    · -- not taken: 217
                      refine lv_iconst (v := nI 1) hx hb d_p15m16_217 (by decide) ?_
                      refine lv_goto (tgt := 222) hx hb d_p15m16_218 (by decide) ?_
                      refine pd_put (ty := .int) X w f195 hz_y rfl 39 (by decide) mT_1178 rfl rfl (by decide +kernel) rfl rfl (Nat.le_of_ble_eq_true rfl) d_p15m16_222 (fun H locs w => ?_)
                      have w : pd_w G s H locs (pd_up h193 y (20, .inr (10, [.ref (ad 0), .ref (ad 1), .ref (ad 2), .int (iv 3), .int (iv 4), .int (iv 5), .ref (ad 6), .ref (ad 7), .ref (ad 8), .ref (ad 9), .ref (ad 10), .ref (ad 11), .int (iv 12), .ref (ad 13), .ref (ad 14), .ref (ad 15), .ref (ad 16), .ref (ad 17), .ref (ad 18), .ref (ad 19), .int (iv 20), .ref (ad 21), .ref (ad 22), .ref (ad 23), .ref (ad 24), .ref (ad 25), .ref (ad 26), .ref (ad 27), .ref (ad 28), .int (iv 29), .ref (ad 30), .ref (ad 31), .int (iv 32), .int (iv 33), .int (iv 34), .int (iv 35), .long tl, .int (nI 0), .int (nI (gm_name cs (sA i0) (eA i0))), .int (nI 1), .int (nI (eA i0)), .ref (ad 41), .ref (ad 42), .int (iv 43)]))) := w
                      obtain ⟨h245, u248⟩ : ∃ z, z = pd_up h193 y (20, .inr (10, [.ref (ad 0), .ref (ad 1), .ref (ad 2), .int (iv 3), .int (iv 4), .int (iv 5), .ref (ad 6), .ref (ad 7), .ref (ad 8), .ref (ad 9), .ref (ad 10), .ref (ad 11), .int (iv 12), .ref (ad 13), .ref (ad 14), .ref (ad 15), .ref (ad 16), .ref (ad 17), .ref (ad 18), .ref (ad 19), .int (iv 20), .ref (ad 21), .ref (ad 22), .ref (ad 23), .ref (ad 24), .ref (ad 25), .ref (ad 26), .ref (ad 27), .ref (ad 28), .int (iv 29), .ref (ad 30), .ref (ad 31), .int (iv 32), .int (iv 33), .int (iv 34), .int (iv 35), .long tl, .int (nI 0), .int (nI (gm_name cs (sA i0) (eA i0))), .int (nI 1), .int (nI (eA i0)), .ref (ad 41), .ref (ad 42), .int (iv 43)])) := ⟨_, rfl⟩
                      rw [← u248] at w
                      have k246 : pd_kq y h193 h245 := by rw [u248]; exact pd_up_kq
                      have f247 : h245 y = some (20, .inr (10, [.ref (ad 0), .ref (ad 1), .ref (ad 2), .int (iv 3), .int (iv 4), .int (iv 5), .ref (ad 6), .ref (ad 7), .ref (ad 8), .ref (ad 9), .ref (ad 10), .ref (ad 11), .int (iv 12), .ref (ad 13), .ref (ad 14), .ref (ad 15), .ref (ad 16), .ref (ad 17), .ref (ad 18), .ref (ad 19), .int (iv 20), .ref (ad 21), .ref (ad 22), .ref (ad 23), .ref (ad 24), .ref (ad 25), .ref (ad 26), .ref (ad 27), .ref (ad 28), .int (iv 29), .ref (ad 30), .ref (ad 31), .int (iv 32), .int (iv 33), .int (iv 34), .int (iv 35), .long tl, .int (nI 0), .int (nI (gm_name cs (sA i0) (eA i0))), .int (nI 1), .int (nI (eA i0)), .ref (ad 41), .ref (ad 42), .int (iv 43)])) := by rw [u248]; exact pd_up_s _ _ _
                      have f249 := k246 _ _ (pd_ne f197 f195 (by simp)) f197
                      have f250 := k246 _ _ (pd_ne f198 f195 (by simp)) f198
                      have f251 := k246 _ _ (pd_ne f199 f195 (by simp)) f199
                      refine lv_aload_n hx hb d_p15m16_225 rfl (lv_at hl 2 rfl) ?_
                      refine lv_iload_n hx hb d_p15m16_226 rfl (lv_at hl 0 rfl) ?_
                      refine lv_iconst (v := nI 1) hx hb d_p15m16_227 (by decide) ?_
                      refine pd_iadd hx hb d_p15m16_228 ?_
                      refine pd_put (ty := .int) X w f247 hz_y rfl 40 (by decide) mT_1179 rfl rfl (by decide +kernel) rfl rfl (Nat.le_of_ble_eq_true rfl) d_p15m16_229 (fun H locs w => ?_)
                      have w : pd_w G s H locs (pd_up h245 y (20, .inr (10, [.ref (ad 0), .ref (ad 1), .ref (ad 2), .int (iv 3), .int (iv 4), .int (iv 5), .ref (ad 6), .ref (ad 7), .ref (ad 8), .ref (ad 9), .ref (ad 10), .ref (ad 11), .int (iv 12), .ref (ad 13), .ref (ad 14), .ref (ad 15), .ref (ad 16), .ref (ad 17), .ref (ad 18), .ref (ad 19), .int (iv 20), .ref (ad 21), .ref (ad 22), .ref (ad 23), .ref (ad 24), .ref (ad 25), .ref (ad 26), .ref (ad 27), .ref (ad 28), .int (iv 29), .ref (ad 30), .ref (ad 31), .int (iv 32), .int (iv 33), .int (iv 34), .int (iv 35), .long tl, .int (nI 0), .int (nI (gm_name cs (sA i0) (eA i0))), .int (nI 1), .int (nI ((gm_name cs (sA i0) (eA i0)) + 1)), .ref (ad 41), .ref (ad 42), .int (iv 43)]))) := w
                      obtain ⟨h252, u255⟩ : ∃ z, z = pd_up h245 y (20, .inr (10, [.ref (ad 0), .ref (ad 1), .ref (ad 2), .int (iv 3), .int (iv 4), .int (iv 5), .ref (ad 6), .ref (ad 7), .ref (ad 8), .ref (ad 9), .ref (ad 10), .ref (ad 11), .int (iv 12), .ref (ad 13), .ref (ad 14), .ref (ad 15), .ref (ad 16), .ref (ad 17), .ref (ad 18), .ref (ad 19), .int (iv 20), .ref (ad 21), .ref (ad 22), .ref (ad 23), .ref (ad 24), .ref (ad 25), .ref (ad 26), .ref (ad 27), .ref (ad 28), .int (iv 29), .ref (ad 30), .ref (ad 31), .int (iv 32), .int (iv 33), .int (iv 34), .int (iv 35), .long tl, .int (nI 0), .int (nI (gm_name cs (sA i0) (eA i0))), .int (nI 1), .int (nI ((gm_name cs (sA i0) (eA i0)) + 1)), .ref (ad 41), .ref (ad 42), .int (iv 43)])) := ⟨_, rfl⟩
                      rw [← u255] at w
                      have k253 : pd_kq y h245 h252 := by rw [u255]; exact pd_up_kq
                      have f254 : h252 y = some (20, .inr (10, [.ref (ad 0), .ref (ad 1), .ref (ad 2), .int (iv 3), .int (iv 4), .int (iv 5), .ref (ad 6), .ref (ad 7), .ref (ad 8), .ref (ad 9), .ref (ad 10), .ref (ad 11), .int (iv 12), .ref (ad 13), .ref (ad 14), .ref (ad 15), .ref (ad 16), .ref (ad 17), .ref (ad 18), .ref (ad 19), .int (iv 20), .ref (ad 21), .ref (ad 22), .ref (ad 23), .ref (ad 24), .ref (ad 25), .ref (ad 26), .ref (ad 27), .ref (ad 28), .int (iv 29), .ref (ad 30), .ref (ad 31), .int (iv 32), .int (iv 33), .int (iv 34), .int (iv 35), .long tl, .int (nI 0), .int (nI (gm_name cs (sA i0) (eA i0))), .int (nI 1), .int (nI ((gm_name cs (sA i0) (eA i0)) + 1)), .ref (ad 41), .ref (ad 42), .int (iv 43)])) := by rw [u255]; exact pd_up_s _ _ _
                      have f256 := k253 _ _ (pd_ne f249 f247 (by simp)) f249
                      have f257 := k253 _ _ (pd_ne f250 f247 (by simp)) f250
                      have f258 := k253 _ _ (pd_ne f251 f247 (by simp)) f251
                      refine lv_aload_n hx hb d_p15m16_232 rfl (lv_at hl 2 rfl) ?_
                      refine pd_get X w f254 rfl 39 (by decide) mT_1178 rfl rfl d_p15m16_233 ?_
                      refine lv_iconst (v := nI 1) hx hb d_p15m16_236 (by decide) ?_
                      refine pd_jeq (tgt := 252) hx hb d_p15m16_237 (by decide) (by decide) (by decide) (fun _ => ?_) (fun q => absurd q (by decide))
                      refine lv_iconst (v := nI 1) hx hb d_p15m16_252 (by decide) ?_
                      refine lv_goto (tgt := 257) hx hb d_p15m16_253 (by decide) ?_
                      have hpt : gm_pt cs (gm_name cs (sA i0) (eA i0)) (eA i0) = some (1, gm_name cs (sA i0) (eA i0) + 1) := by unfold gm_pt; rw [if_neg (by omega), if_neg (by omega), if_pos (by omega)]
                      have hp : gm_pat cs (sA i0) (eA i0) = some (0, gm_name cs (sA i0) (eA i0), 1, gm_name cs (sA i0) (eA i0) + 1) := by unfold gm_pat; rw [hph]; simp only [hpt]
                      refine W.eq (g2 := F0 m 257 ls [.int (pd_b true)]) rfl ?_
                      exact pd_zret (v := true) X w ⟨by rw [hp]; rfl, pd_kx.tr (pd_kx.tr (pd_kx.tr (pd_kx.tr (pd_kx.tr (pd_kx.tr (pd_kx.tr (pd_kq.kx (k2) hy0) (pd_kq.kx (k9) f3)) (pd_kq.kx (k22) f10)) (pd_kq.kx (k29) f23)) (pd_kq.kx (k187) f30)) (pd_kq.kx (k194) f188)) (pd_kq.kx (k246) f195)) (pd_kq.kx (k253) f247), (nI 0), (nI (gm_name cs (sA i0) (eA i0))), (nI 1), (nI ((gm_name cs (sA i0) (eA i0)) + 1)), (pd_MO.of (fv2 := fv) (iv2 := pd_fu (pd_fu (pd_fu (pd_fu iv 37 (nI 0)) 38 (nI (gm_name cs (sA i0) (eA i0)))) 39 (nI 1)) 40 (nI ((gm_name cs (sA i0) (eA i0)) + 1))) (tl2 := tl) (ts := [20]) hMO (pd_kx.tr (pd_kx.tr (pd_kx.tr (pd_kx.tr (pd_kx.tr (pd_kx.tr (pd_kx.tr (pd_kq.kx (k2) hy0) (pd_kq.kx (k9) f3)) (pd_kq.kx (k22) f10)) (pd_kq.kx (k29) f23)) (pd_kq.kx (k187) f30)) (pd_kq.kx (k194) f188)) (pd_kq.kx (k246) f195)) (pd_kq.kx (k253) f247)) f254 (fun j hj => Or.inr ⟨fun z => by first | (simp at z; done) | (simp at z; omega), rfl⟩)), fun t9 ht9 => by rw [hp] at ht9; cases ht9; exact ⟨rfl, rfl, rfl, rfl⟩⟩ (by decide) (by decide) d_p15m16_257
                · -- not taken: 194
                  refine lv_iconst (v := nI 0) hx hb d_p15m16_194 (by decide) ?_
                  have hpt : gm_pt cs (gm_name cs (sA i0) (eA i0)) (eA i0) = none := by unfold gm_pt; rw [if_neg (by omega), if_pos (by omega)]
                  have hp : gm_pat cs (sA i0) (eA i0) = none := by unfold gm_pat; rw [hph]; simp only [hpt]
                  refine W.eq (g2 := F0 m 195 ls [.int (pd_b false)]) rfl ?_
                  exact pd_zret (v := false) X w ⟨by rw [hp]; rfl, pd_kx.tr (pd_kx.tr (pd_kx.tr (pd_kx.tr (pd_kx.tr (pd_kq.kx (k2) hy0) (pd_kq.kx (k9) f3)) (pd_kq.kx (k22) f10)) (pd_kq.kx (k29) f23)) (pd_kq.kx (k187) f30)) (pd_kq.kx (k194) f188), (nI 0), (nI (gm_name cs (sA i0) (eA i0))), (nI 0), (nI (eA i0)), (pd_MO.of (fv2 := fv) (iv2 := pd_fu (pd_fu (pd_fu (pd_fu iv 37 (nI 0)) 38 (nI (gm_name cs (sA i0) (eA i0)))) 39 (nI 0)) 40 (nI (eA i0))) (tl2 := tl) (ts := [20]) hMO (pd_kx.tr (pd_kx.tr (pd_kx.tr (pd_kx.tr (pd_kx.tr (pd_kq.kx (k2) hy0) (pd_kq.kx (k9) f3)) (pd_kq.kx (k22) f10)) (pd_kq.kx (k29) f23)) (pd_kq.kx (k187) f30)) (pd_kq.kx (k194) f188)) f195 (fun j hj => Or.inr ⟨fun z => by first | (simp at z; done) | (simp at z; omega), rfl⟩)), fun t9 ht9 => by rw [hp] at ht9; cases ht9⟩ (by decide) (by decide) d_p15m16_195
            · -- not taken: 174
              refine lv_iconst (v := nI 1) hx hb d_p15m16_174 (by decide) ?_
              have hpt : gm_pt cs (gm_name cs (sA i0) (eA i0)) (eA i0) = some (0, eA i0) := by unfold gm_pt; rw [if_pos (by omega)]
              have hp : gm_pat cs (sA i0) (eA i0) = some (0, gm_name cs (sA i0) (eA i0), 0, eA i0) := by unfold gm_pat; rw [hph]; simp only [hpt]
              refine W.eq (g2 := F0 m 175 ls [.int (pd_b true)]) rfl ?_
              exact pd_zret (v := true) X w ⟨by rw [hp]; rfl, pd_kx.tr (pd_kx.tr (pd_kx.tr (pd_kx.tr (pd_kx.tr (pd_kq.kx (k2) hy0) (pd_kq.kx (k9) f3)) (pd_kq.kx (k22) f10)) (pd_kq.kx (k29) f23)) (pd_kq.kx (k187) f30)) (pd_kq.kx (k194) f188), (nI 0), (nI (gm_name cs (sA i0) (eA i0))), (nI 0), (nI (eA i0)), (pd_MO.of (fv2 := fv) (iv2 := pd_fu (pd_fu (pd_fu (pd_fu iv 37 (nI 0)) 38 (nI (gm_name cs (sA i0) (eA i0)))) 39 (nI 0)) 40 (nI (eA i0))) (tl2 := tl) (ts := [20]) hMO (pd_kx.tr (pd_kx.tr (pd_kx.tr (pd_kx.tr (pd_kx.tr (pd_kq.kx (k2) hy0) (pd_kq.kx (k9) f3)) (pd_kq.kx (k22) f10)) (pd_kq.kx (k29) f23)) (pd_kq.kx (k187) f30)) (pd_kq.kx (k194) f188)) f195 (fun j hj => Or.inr ⟨fun z => by first | (simp at z; done) | (simp at z; omega), rfl⟩)), fun t9 ht9 => by rw [hp] at ht9; cases ht9; exact ⟨rfl, rfl, rfl, rfl⟩⟩ (by decide) (by decide) d_p15m16_175
          · -- not taken: 121
            refine lv_aload_n hx hb d_p15m16_121 rfl (lv_at hl 2 rfl) ?_
            refine lv_iload_n hx hb d_p15m16_122 rfl (lv_at hl 0 rfl) ?_
            refine lv_iconst (v := nI 2) hx hb d_p15m16_123 (by decide) ?_
            refine pd_iadd hx hb d_p15m16_124 ?_
            refine lv_iload_n hx hb d_p15m16_125 rfl (lv_at hl 1 rfl) ?_
            refine pd_jge (tgt := 146) hx hb d_p15m16_126 (by decide) (by omega) (by omega) (fun q260 => ?_) (fun q260 => ?_)
            · -- taken: 146
              refine lv_iconst (v := nI 1) hx hb d_p15m16_146 (by decide) ?_
              refine pd_put (ty := .int) X w f30 hz_y rfl 37 (by decide) mT_1176 rfl rfl (by decide +kernel) rfl rfl (Nat.le_of_ble_eq_true rfl) d_p15m16_147 (fun H locs w => ?_)
              have w : pd_w G s H locs (pd_up h28 y (20, .inr (10, [.ref (ad 0), .ref (ad 1), .ref (ad 2), .int (iv 3), .int (iv 4), .int (iv 5), .ref (ad 6), .ref (ad 7), .ref (ad 8), .ref (ad 9), .ref (ad 10), .ref (ad 11), .int (iv 12), .ref (ad 13), .ref (ad 14), .ref (ad 15), .ref (ad 16), .ref (ad 17), .ref (ad 18), .ref (ad 19), .int (iv 20), .ref (ad 21), .ref (ad 22), .ref (ad 23), .ref (ad 24), .ref (ad 25), .ref (ad 26), .ref (ad 27), .ref (ad 28), .int (iv 29), .ref (ad 30), .ref (ad 31), .int (iv 32), .int (iv 33), .int (iv 34), .int (iv 35), .long tl, .int (nI 1), .int (nI (gm_name cs (sA i0) (eA i0))), .int (iv 39), .int (iv 40), .ref (ad 41), .ref (ad 42), .int (iv 43)]))) := w
              obtain ⟨h261, u264⟩ : ∃ z, z = pd_up h28 y (20, .inr (10, [.ref (ad 0), .ref (ad 1), .ref (ad 2), .int (iv 3), .int (iv 4), .int (iv 5), .ref (ad 6), .ref (ad 7), .ref (ad 8), .ref (ad 9), .ref (ad 10), .ref (ad 11), .int (iv 12), .ref (ad 13), .ref (ad 14), .ref (ad 15), .ref (ad 16), .ref (ad 17), .ref (ad 18), .ref (ad 19), .int (iv 20), .ref (ad 21), .ref (ad 22), .ref (ad 23), .ref (ad 24), .ref (ad 25), .ref (ad 26), .ref (ad 27), .ref (ad 28), .int (iv 29), .ref (ad 30), .ref (ad 31), .int (iv 32), .int (iv 33), .int (iv 34), .int (iv 35), .long tl, .int (nI 1), .int (nI (gm_name cs (sA i0) (eA i0))), .int (iv 39), .int (iv 40), .ref (ad 41), .ref (ad 42), .int (iv 43)])) := ⟨_, rfl⟩
              rw [← u264] at w
              have k262 : pd_kq y h28 h261 := by rw [u264]; exact pd_up_kq
              have f263 : h261 y = some (20, .inr (10, [.ref (ad 0), .ref (ad 1), .ref (ad 2), .int (iv 3), .int (iv 4), .int (iv 5), .ref (ad 6), .ref (ad 7), .ref (ad 8), .ref (ad 9), .ref (ad 10), .ref (ad 11), .int (iv 12), .ref (ad 13), .ref (ad 14), .ref (ad 15), .ref (ad 16), .ref (ad 17), .ref (ad 18), .ref (ad 19), .int (iv 20), .ref (ad 21), .ref (ad 22), .ref (ad 23), .ref (ad 24), .ref (ad 25), .ref (ad 26), .ref (ad 27), .ref (ad 28), .int (iv 29), .ref (ad 30), .ref (ad 31), .int (iv 32), .int (iv 33), .int (iv 34), .int (iv 35), .long tl, .int (nI 1), .int (nI (gm_name cs (sA i0) (eA i0))), .int (iv 39), .int (iv 40), .ref (ad 41), .ref (ad 42), .int (iv 43)])) := by rw [u264]; exact pd_up_s _ _ _
              have f265 := k262 _ _ (pd_ne f32 f30 (by simp)) f32
              have f266 := k262 _ _ (pd_ne f33 f30 (by simp)) f33
              have f267 := k262 _ _ (pd_ne f34 f30 (by simp)) f34
              refine lv_iload_n hx hb d_p15m16_150 rfl (lv_at hl 0 rfl) ?_
              refine lv_iconst (v := nI 1) hx hb d_p15m16_151 (by decide) ?_
              refine lv_aload_n hx hb d_p15m16_152 rfl (lv_at hl 2 rfl) ?_
              refine pd_get X w f263 rfl 37 (by decide) mT_1176 rfl rfl d_p15m16_153 ?_
              refine pd_iadd hx hb d_p15m16_156 ?_
              refine pd_iadd hx hb d_p15m16_157 ?_
              refine lv_istore_n (lv' := [(2, .int (nI ((gm_name cs (sA i0) (eA i0)) + 2))), (3, .int (nI (eA i0))), (0, .ref y), (1, .int (nI i0))]) hx hb d_p15m16_158 rfl hl (by decide) rfl (fun ls hl => ?_)
              have hph : gm_ph cs (sA i0) (eA i0) = some (1, gm_name cs (sA i0) (eA i0), (gm_name cs (sA i0) (eA i0)) + 2) := by unfold gm_ph; rw [if_neg (by omega), if_neg (by omega), if_pos (by omega), if_neg (by omega)]
              refine lv_aload_n hx hb d_p15m16_159 rfl (lv_at hl 2 rfl) ?_
              refine lv_iconst (v := nI 0) hx hb d_p15m16_160 (by decide) ?_
              refine pd_put (ty := .int) X w f263 hz_y rfl 39 (by decide) mT_1178 rfl rfl (by decide +kernel) rfl rfl (Nat.le_of_ble_eq_true rfl) d_p15m16_161 (fun H locs w => ?_)
              have w : pd_w G s H locs (pd_up h261 y (20, .inr (10, [.ref (ad 0), .ref (ad 1), .ref (ad 2), .int (iv 3), .int (iv 4), .int (iv 5), .ref (ad 6), .ref (ad 7), .ref (ad 8), .ref (ad 9), .ref (ad 10), .ref (ad 11), .int (iv 12), .ref (ad 13), .ref (ad 14), .ref (ad 15), .ref (ad 16), .ref (ad 17), .ref (ad 18), .ref (ad 19), .int (iv 20), .ref (ad 21), .ref (ad 22), .ref (ad 23), .ref (ad 24), .ref (ad 25), .ref (ad 26), .ref (ad 27), .ref (ad 28), .int (iv 29), .ref (ad 30), .ref (ad 31), .int (iv 32), .int (iv 33), .int (iv 34), .int (iv 35), .long tl, .int (nI 1), .int (nI (gm_name cs (sA i0) (eA i0))), .int (nI 0), .int (iv 40), .ref (ad 41), .ref (ad 42), .int (iv 43)]))) := w
              obtain ⟨h268, u271⟩ : ∃ z, z = pd_up h261 y (20, .inr (10, [.ref (ad 0), .ref (ad 1), .ref (ad 2), .int (iv 3), .int (iv 4), .int (iv 5), .ref (ad 6), .ref (ad 7), .ref (ad 8), .ref (ad 9), .ref (ad 10), .ref (ad 11), .int (iv 12), .ref (ad 13), .ref (ad 14), .ref (ad 15), .ref (ad 16), .ref (ad 17), .ref (ad 18), .ref (ad 19), .int (iv 20), .ref (ad 21), .ref (ad 22), .ref (ad 23), .ref (ad 24), .ref (ad 25), .ref (ad 26), .ref (ad 27), .ref (ad 28), .int (iv 29), .ref (ad 30), .ref (ad 31), .int (iv 32), .int (iv 33), .int (iv 34), .int (iv 35), .long tl, .int (nI 1), .int (nI (gm_name cs (sA i0) (eA i0))), .int (nI 0), .int (iv 40), .ref (ad 41), .ref (ad 42), .int (iv 43)])) := ⟨_, rfl⟩
              rw [← u271] at w
              have k269 : pd_kq y h261 h268 := by rw [u271]; exact pd_up_kq
              have f270 : h268 y = some (20, .inr (10, [.ref (ad 0), .ref (ad 1), .ref (ad 2), .int (iv 3), .int (iv 4), .int (iv 5), .ref (ad 6), .ref (ad 7), .ref (ad 8), .ref (ad 9), .ref (ad 10), .ref (ad 11), .int (iv 12), .ref (ad 13), .ref (ad 14), .ref (ad 15), .ref (ad 16), .ref (ad 17), .ref (ad 18), .ref (ad 19), .int (iv 20), .ref (ad 21), .ref (ad 22), .ref (ad 23), .ref (ad 24), .ref (ad 25), .ref (ad 26), .ref (ad 27), .ref (ad 28), .int (iv 29), .ref (ad 30), .ref (ad 31), .int (iv 32), .int (iv 33), .int (iv 34), .int (iv 35), .long tl, .int (nI 1), .int (nI (gm_name cs (sA i0) (eA i0))), .int (nI 0), .int (iv 40), .ref (ad 41), .ref (ad 42), .int (iv 43)])) := by rw [u271]; exact pd_up_s _ _ _
              have f272 := k269 _ _ (pd_ne f265 f263 (by simp)) f265
              have f273 := k269 _ _ (pd_ne f266 f263 (by simp)) f266
              have f274 := k269 _ _ (pd_ne f267 f263 (by simp)) f267
              refine lv_aload_n hx hb d_p15m16_164 rfl (lv_at hl 2 rfl) ?_
              refine lv_iload_n hx hb d_p15m16_165 rfl (lv_at hl 1 rfl) ?_
              refine pd_put (ty := .int) X w f270 hz_y rfl 40 (by decide) mT_1179 rfl rfl (by decide +kernel) rfl rfl (Nat.le_of_ble_eq_true rfl) d_p15m16_166 (fun H locs w => ?_)
              have w : pd_w G s H locs (pd_up h268 y (20, .inr (10, [.ref (ad 0), .ref (ad 1), .ref (ad 2), .int (iv 3), .int (iv 4), .int (iv 5), .ref (ad 6), .ref (ad 7), .ref (ad 8), .ref (ad 9), .ref (ad 10), .ref (ad 11), .int (iv 12), .ref (ad 13), .ref (ad 14), .ref (ad 15), .ref (ad 16), .ref (ad 17), .ref (ad 18), .ref (ad 19), .int (iv 20), .ref (ad 21), .ref (ad 22), .ref (ad 23), .ref (ad 24), .ref (ad 25), .ref (ad 26), .ref (ad 27), .ref (ad 28), .int (iv 29), .ref (ad 30), .ref (ad 31), .int (iv 32), .int (iv 33), .int (iv 34), .int (iv 35), .long tl, .int (nI 1), .int (nI (gm_name cs (sA i0) (eA i0))), .int (nI 0), .int (nI (eA i0)), .ref (ad 41), .ref (ad 42), .int (iv 43)]))) := w
              obtain ⟨h275, u278⟩ : ∃ z, z = pd_up h268 y (20, .inr (10, [.ref (ad 0), .ref (ad 1), .ref (ad 2), .int (iv 3), .int (iv 4), .int (iv 5), .ref (ad 6), .ref (ad 7), .ref (ad 8), .ref (ad 9), .ref (ad 10), .ref (ad 11), .int (iv 12), .ref (ad 13), .ref (ad 14), .ref (ad 15), .ref (ad 16), .ref (ad 17), .ref (ad 18), .ref (ad 19), .int (iv 20), .ref (ad 21), .ref (ad 22), .ref (ad 23), .ref (ad 24), .ref (ad 25), .ref (ad 26), .ref (ad 27), .ref (ad 28), .int (iv 29), .ref (ad 30), .ref (ad 31), .int (iv 32), .int (iv 33), .int (iv 34), .int (iv 35), .long tl, .int (nI 1), .int (nI (gm_name cs (sA i0) (eA i0))), .int (nI 0), .int (nI (eA i0)), .ref (ad 41), .ref (ad 42), .int (iv 43)])) := ⟨_, rfl⟩
              rw [← u278] at w
              have k276 : pd_kq y h268 h275 := by rw [u278]; exact pd_up_kq
              have f277 : h275 y = some (20, .inr (10, [.ref (ad 0), .ref (ad 1), .ref (ad 2), .int (iv 3), .int (iv 4), .int (iv 5), .ref (ad 6), .ref (ad 7), .ref (ad 8), .ref (ad 9), .ref (ad 10), .ref (ad 11), .int (iv 12), .ref (ad 13), .ref (ad 14), .ref (ad 15), .ref (ad 16), .ref (ad 17), .ref (ad 18), .ref (ad 19), .int (iv 20), .ref (ad 21), .ref (ad 22), .ref (ad 23), .ref (ad 24), .ref (ad 25), .ref (ad 26), .ref (ad 27), .ref (ad 28), .int (iv 29), .ref (ad 30), .ref (ad 31), .int (iv 32), .int (iv 33), .int (iv 34), .int (iv 35), .long tl, .int (nI 1), .int (nI (gm_name cs (sA i0) (eA i0))), .int (nI 0), .int (nI (eA i0)), .ref (ad 41), .ref (ad 42), .int (iv 43)])) := by rw [u278]; exact pd_up_s _ _ _
              have f279 := k276 _ _ (pd_ne f272 f270 (by simp)) f272
              have f280 := k276 _ _ (pd_ne f273 f270 (by simp)) f273
              have f281 := k276 _ _ (pd_ne f274 f270 (by simp)) f274
              refine lv_iload_n hx hb d_p15m16_169 rfl (lv_at hl 0 rfl) ?_
              refine lv_iload_n hx hb d_p15m16_170 rfl (lv_at hl 1 rfl) ?_
              refine pd_jne (tgt := 176) hx hb d_p15m16_171 (by decide) (by omega) (by omega) (fun q282 => ?_) (fun q282 => ?_)
              · -- taken: 176
                refine lv_aload_n hx hb d_p15m16_176 rfl (lv_at hl 2 rfl) ?_
                refine pd_get X w f277 rfl 0 (by decide) mT_1139 rfl rfl d_p15m16_177 ?_
                refine lv_iload_n hx hb d_p15m16_180 rfl (lv_at hl 0 rfl) ?_
                refine pd_iald X w f279 (by omega) (by omega) d_p15m16_181 ?_
                refine pd_top (v' := .int (nI (cs.getD ((gm_name cs (sA i0) (eA i0)) + 2) 0))) (congrArg Value.int (hln _ (by omega))) ?_
                have := tx_lt hlc ((gm_name cs (sA i0) (eA i0)) + 2)
                refine lv_bipush (v := nI 46) hx hb d_p15m16_182 (by decide) ?_
                refine pd_jne (tgt := 194) hx hb d_p15m16_184 (by decide) (by omega) (by omega) (fun q283 => ?_) (fun q283 => ?_)
                · -- taken: 194
                  refine lv_iconst (v := nI 0) hx hb d_p15m16_194 (by decide) ?_
                  have hpt : gm_pt cs ((gm_name cs (sA i0) (eA i0)) + 2) (eA i0) = none := by unfold gm_pt; rw [if_neg (by omega), if_pos (by omega)]
                  have hp : gm_pat cs (sA i0) (eA i0) = none := by unfold gm_pat; rw [hph]; simp only [hpt]
                  refine W.eq (g2 := F0 m 195 ls [.int (pd_b false)]) rfl ?_
                  exact pd_zret (v := false) X w ⟨by rw [hp]; rfl, pd_kx.tr (pd_kx.tr (pd_kx.tr (pd_kx.tr (pd_kx.tr (pd_kx.tr (pd_kq.kx (k2) hy0) (pd_kq.kx (k9) f3)) (pd_kq.kx (k22) f10)) (pd_kq.kx (k29) f23)) (pd_kq.kx (k262) f30)) (pd_kq.kx (k269) f263)) (pd_kq.kx (k276) f270), (nI 1), (nI (gm_name cs (sA i0) (eA i0))), (nI 0), (nI (eA i0)), (pd_MO.of (fv2 := fv) (iv2 := pd_fu (pd_fu (pd_fu (pd_fu iv 37 (nI 1)) 38 (nI (gm_name cs (sA i0) (eA i0)))) 39 (nI 0)) 40 (nI (eA i0))) (tl2 := tl) (ts := [20]) hMO (pd_kx.tr (pd_kx.tr (pd_kx.tr (pd_kx.tr (pd_kx.tr (pd_kx.tr (pd_kq.kx (k2) hy0) (pd_kq.kx (k9) f3)) (pd_kq.kx (k22) f10)) (pd_kq.kx (k29) f23)) (pd_kq.kx (k262) f30)) (pd_kq.kx (k269) f263)) (pd_kq.kx (k276) f270)) f277 (fun j hj => Or.inr ⟨fun z => by first | (simp at z; done) | (simp at z; omega), rfl⟩)), fun t9 ht9 => by rw [hp] at ht9; cases ht9⟩ (by decide) (by decide) d_p15m16_195
                · -- not taken: 187
                  refine lv_iload_n hx hb d_p15m16_187 rfl (lv_at hl 0 rfl) ?_
                  refine lv_iconst (v := nI 1) hx hb d_p15m16_188 (by decide) ?_
                  refine pd_iadd hx hb d_p15m16_189 ?_
                  refine lv_iload_n hx hb d_p15m16_190 rfl (lv_at hl 1 rfl) ?_
                  refine pd_jne (tgt := 196) hx hb d_p15m16_191 (by decide) (by omega) (by omega) (fun q284 => ?_) (fun q284 => ?_)
                  · -- taken: 196
                    refine lv_aload_n hx hb d_p15m16_196 rfl (lv_at hl 2 rfl) ?_
                    refine lv_aload_n hx hb d_p15m16_197 rfl (lv_at hl 2 rfl) ?_
                    refine pd_get X w f277 rfl 0 (by decide) mT_1139 rfl rfl d_p15m16_198 ?_
                    refine lv_iload_n hx hb d_p15m16_201 rfl (lv_at hl 0 rfl) ?_
                    refine lv_iconst (v := nI 1) hx hb d_p15m16_202 (by decide) ?_
                    refine pd_iadd hx hb d_p15m16_203 ?_
                    refine pd_iald X w f279 (by omega) (by omega) d_p15m16_204 ?_
                    refine pd_top (v' := .int (nI (cs.getD (((gm_name cs (sA i0) (eA i0)) + 2) + 1) 0))) (congrArg Value.int (hln _ (by omega))) ?_
                    have := tx_lt hlc (((gm_name cs (sA i0) (eA i0)) + 2) + 1)
                    refine lv_bipush (v := nI 42) hx hb d_p15m16_205 (by decide) ?_
                    refine pd_jne (tgt := 221) hx hb d_p15m16_207 (by decide) (by omega) (by omega) (fun q285 => ?_) (fun q285 => ?_)
                    · -- taken: 221
                      refine lv_iconst (v := nI 2) hx hb d_p15m16_221 (by decide) ?_
                      refine pd_put (ty := .int) X w f277 hz_y rfl 39 (by decide) mT_1178 rfl rfl (by decide +kernel) rfl rfl (Nat.le_of_ble_eq_true rfl) d_p15m16_222 (fun H locs w => ?_)
                      have w : pd_w G s H locs (pd_up h275 y (20, .inr (10, [.ref (ad 0), .ref (ad 1), .ref (ad 2), .int (iv 3), .int (iv 4), .int (iv 5), .ref (ad 6), .ref (ad 7), .ref (ad 8), .ref (ad 9), .ref (ad 10), .ref (ad 11), .int (iv 12), .ref (ad 13), .ref (ad 14), .ref (ad 15), .ref (ad 16), .ref (ad 17), .ref (ad 18), .ref (ad 19), .int (iv 20), .ref (ad 21), .ref (ad 22), .ref (ad 23), .ref (ad 24), .ref (ad 25), .ref (ad 26), .ref (ad 27), .ref (ad 28), .int (iv 29), .ref (ad 30), .ref (ad 31), .int (iv 32), .int (iv 33), .int (iv 34), .int (iv 35), .long tl, .int (nI 1), .int (nI (gm_name cs (sA i0) (eA i0))), .int (nI 2), .int (nI (eA i0)), .ref (ad 41), .ref (ad 42), .int (iv 43)]))) := w
                      obtain ⟨h286, u289⟩ : ∃ z, z = pd_up h275 y (20, .inr (10, [.ref (ad 0), .ref (ad 1), .ref (ad 2), .int (iv 3), .int (iv 4), .int (iv 5), .ref (ad 6), .ref (ad 7), .ref (ad 8), .ref (ad 9), .ref (ad 10), .ref (ad 11), .int (iv 12), .ref (ad 13), .ref (ad 14), .ref (ad 15), .ref (ad 16), .ref (ad 17), .ref (ad 18), .ref (ad 19), .int (iv 20), .ref (ad 21), .ref (ad 22), .ref (ad 23), .ref (ad 24), .ref (ad 25), .ref (ad 26), .ref (ad 27), .ref (ad 28), .int (iv 29), .ref (ad 30), .ref (ad 31), .int (iv 32), .int (iv 33), .int (iv 34), .int (iv 35), .long tl, .int (nI 1), .int (nI (gm_name cs (sA i0) (eA i0))), .int (nI 2), .int (nI (eA i0)), .ref (ad 41), .ref (ad 42), .int (iv 43)])) := ⟨_, rfl⟩
                      rw [← u289] at w
                      have k287 : pd_kq y h275 h286 := by rw [u289]; exact pd_up_kq
                      have f288 : h286 y = some (20, .inr (10, [.ref (ad 0), .ref (ad 1), .ref (ad 2), .int (iv 3), .int (iv 4), .int (iv 5), .ref (ad 6), .ref (ad 7), .ref (ad 8), .ref (ad 9), .ref (ad 10), .ref (ad 11), .int (iv 12), .ref (ad 13), .ref (ad 14), .ref (ad 15), .ref (ad 16), .ref (ad 17), .ref (ad 18), .ref (ad 19), .int (iv 20), .ref (ad 21), .ref (ad 22), .ref (ad 23), .ref (ad 24), .ref (ad 25), .ref (ad 26), .ref (ad 27), .ref (ad 28), .int (iv 29), .ref (ad 30), .ref (ad 31), .int (iv 32), .int (iv 33), .int (iv 34), .int (iv 35), .long tl, .int (nI 1), .int (nI (gm_name cs (sA i0) (eA i0))), .int (nI 2), .int (nI (eA i0)), .ref (ad 41), .ref (ad 42), .int (iv 43)])) := by rw [u289]; exact pd_up_s _ _ _
                      have f290 := k287 _ _ (pd_ne f279 f277 (by simp)) f279
                      have f291 := k287 _ _ (pd_ne f280 f277 (by simp)) f280
                      have f292 := k287 _ _ (pd_ne f281 f277 (by simp)) f281
                      refine lv_aload_n hx hb d_p15m16_225 rfl (lv_at hl 2 rfl) ?_
                      refine lv_iload_n hx hb d_p15m16_226 rfl (lv_at hl 0 rfl) ?_
                      refine lv_iconst (v := nI 1) hx hb d_p15m16_227 (by decide) ?_
                      refine pd_iadd hx hb d_p15m16_228 ?_
                      refine pd_put (ty := .int) X w f288 hz_y rfl 40 (by decide) mT_1179 rfl rfl (by decide +kernel) rfl rfl (Nat.le_of_ble_eq_true rfl) d_p15m16_229 (fun H locs w => ?_)
                      have w : pd_w G s H locs (pd_up h286 y (20, .inr (10, [.ref (ad 0), .ref (ad 1), .ref (ad 2), .int (iv 3), .int (iv 4), .int (iv 5), .ref (ad 6), .ref (ad 7), .ref (ad 8), .ref (ad 9), .ref (ad 10), .ref (ad 11), .int (iv 12), .ref (ad 13), .ref (ad 14), .ref (ad 15), .ref (ad 16), .ref (ad 17), .ref (ad 18), .ref (ad 19), .int (iv 20), .ref (ad 21), .ref (ad 22), .ref (ad 23), .ref (ad 24), .ref (ad 25), .ref (ad 26), .ref (ad 27), .ref (ad 28), .int (iv 29), .ref (ad 30), .ref (ad 31), .int (iv 32), .int (iv 33), .int (iv 34), .int (iv 35), .long tl, .int (nI 1), .int (nI (gm_name cs (sA i0) (eA i0))), .int (nI 2), .int (nI (((gm_name cs (sA i0) (eA i0)) + 2) + 1)), .ref (ad 41), .ref (ad 42), .int (iv 43)]))) := w
                      obtain ⟨h293, u296⟩ : ∃ z, z = pd_up h286 y (20, .inr (10, [.ref (ad 0), .ref (ad 1), .ref (ad 2), .int (iv 3), .int (iv 4), .int (iv 5), .ref (ad 6), .ref (ad 7), .ref (ad 8), .ref (ad 9), .ref (ad 10), .ref (ad 11), .int (iv 12), .ref (ad 13), .ref (ad 14), .ref (ad 15), .ref (ad 16), .ref (ad 17), .ref (ad 18), .ref (ad 19), .int (iv 20), .ref (ad 21), .ref (ad 22), .ref (ad 23), .ref (ad 24), .ref (ad 25), .ref (ad 26), .ref (ad 27), .ref (ad 28), .int (iv 29), .ref (ad 30), .ref (ad 31), .int (iv 32), .int (iv 33), .int (iv 34), .int (iv 35), .long tl, .int (nI 1), .int (nI (gm_name cs (sA i0) (eA i0))), .int (nI 2), .int (nI (((gm_name cs (sA i0) (eA i0)) + 2) + 1)), .ref (ad 41), .ref (ad 42), .int (iv 43)])) := ⟨_, rfl⟩
                      rw [← u296] at w
                      have k294 : pd_kq y h286 h293 := by rw [u296]; exact pd_up_kq
                      have f295 : h293 y = some (20, .inr (10, [.ref (ad 0), .ref (ad 1), .ref (ad 2), .int (iv 3), .int (iv 4), .int (iv 5), .ref (ad 6), .ref (ad 7), .ref (ad 8), .ref (ad 9), .ref (ad 10), .ref (ad 11), .int (iv 12), .ref (ad 13), .ref (ad 14), .ref (ad 15), .ref (ad 16), .ref (ad 17), .ref (ad 18), .ref (ad 19), .int (iv 20), .ref (ad 21), .ref (ad 22), .ref (ad 23), .ref (ad 24), .ref (ad 25), .ref (ad 26), .ref (ad 27), .ref (ad 28), .int (iv 29), .ref (ad 30), .ref (ad 31), .int (iv 32), .int (iv 33), .int (iv 34), .int (iv 35), .long tl, .int (nI 1), .int (nI (gm_name cs (sA i0) (eA i0))), .int (nI 2), .int (nI (((gm_name cs (sA i0) (eA i0)) + 2) + 1)), .ref (ad 41), .ref (ad 42), .int (iv 43)])) := by rw [u296]; exact pd_up_s _ _ _
                      have f297 := k294 _ _ (pd_ne f290 f288 (by simp)) f290
                      have f298 := k294 _ _ (pd_ne f291 f288 (by simp)) f291
                      have f299 := k294 _ _ (pd_ne f292 f288 (by simp)) f292
                      refine lv_aload_n hx hb d_p15m16_232 rfl (lv_at hl 2 rfl) ?_
                      refine pd_get X w f295 rfl 39 (by decide) mT_1178 rfl rfl d_p15m16_233 ?_
                      refine lv_iconst (v := nI 1) hx hb d_p15m16_236 (by decide) ?_
                      refine pd_jeq (tgt := 252) hx hb d_p15m16_237 (by decide) (by decide) (by decide) (fun q => absurd q (by decide)) (fun _ => ?_)
                      refine lv_aload_n hx hb d_p15m16_240 rfl (lv_at hl 2 rfl) ?_
                      refine lv_iload_n hx hb d_p15m16_241 rfl (lv_at hl 0 rfl) ?_
                      refine lv_iconst (v := nI 1) hx hb d_p15m16_242 (by decide) ?_
                      refine pd_iadd hx hb d_p15m16_243 ?_
                      refine lv_iload_n hx hb d_p15m16_244 rfl (lv_at hl 1 rfl) ?_
                      refine pd_cV (a := y) (As := [.int (nI (((gm_name cs (sA i0) (eA i0)) + 2) + 1)), .int (nI (eA i0))]) (rest := []) X w f295 rfl (c_PolicyDeskModel_behindPart l G h293 (ad := ad) (fv := fv) (iv := pd_fu (pd_fu (pd_fu (pd_fu iv 37 (nI 1)) 38 (nI (gm_name cs (sA i0) (eA i0)))) 39 (nI 2)) 40 (nI (((gm_name cs (sA i0) (eA i0)) + 2) + 1))) (tl := tl) (pd_MO.of (fv2 := fv) (iv2 := pd_fu (pd_fu (pd_fu (pd_fu iv 37 (nI 1)) 38 (nI (gm_name cs (sA i0) (eA i0)))) 39 (nI 2)) 40 (nI (((gm_name cs (sA i0) (eA i0)) + 2) + 1))) (tl2 := tl) (ts := [20]) hMO (pd_kx.tr (pd_kx.tr (pd_kx.tr (pd_kx.tr (pd_kx.tr (pd_kx.tr (pd_kx.tr (pd_kx.tr (pd_kq.kx (k2) hy0) (pd_kq.kx (k9) f3)) (pd_kq.kx (k22) f10)) (pd_kq.kx (k29) f23)) (pd_kq.kx (k262) f30)) (pd_kq.kx (k269) f263)) (pd_kq.kx (k276) f270)) (pd_kq.kx (k287) f277)) (pd_kq.kx (k294) f288)) f295 (fun j hj => Or.inr ⟨fun z => by first | (simp at z; done) | (simp at z; omega), rfl⟩)) hL (by omega) (by omega)) ok_PolicyDeskModel_behindPart ⟨mT_1315, sT_19⟩ mT_1313 ⟨by decide, by decide⟩ rfl hl.1 rfl (Nat.le_of_ble_eq_true rfl) d_p15m16_245 ⟨by decide, by decide⟩ (fun r301 h302 H locs hp303 w => ?_)
                      refine W.widen (k := 0) (n := 0) (by decide) (by decide) ?_
                      obtain ⟨e304, rfl⟩ := hp303
                      have hpl := gm_part_le (cs := cs) (x := (gm_name cs (sA i0) (eA i0)) + 2 + 1) (to := eA i0) (by omega)
                      refine lv_iload_n hx hb d_p15m16_248 rfl (lv_at hl 1 rfl) ?_
                      refine pd_jne (tgt := 256) hx hb d_p15m16_249 (by decide) (by omega) (by omega) (fun q305 => ?_) (fun q305 => ?_)
                      · -- taken: 256
                        refine lv_iconst (v := nI 0) hx hb d_p15m16_256 (by decide) ?_
                        have hpt : gm_pt cs ((gm_name cs (sA i0) (eA i0)) + 2) (eA i0) = none := by unfold gm_pt; rw [if_neg (by omega), if_neg (by omega), if_neg (by omega), if_neg (by rw [← e304]; omega)]
                        have hp : gm_pat cs (sA i0) (eA i0) = none := by unfold gm_pat; rw [hph]; simp only [hpt]
                        refine W.eq (g2 := F0 m 257 ls [.int (pd_b false)]) rfl ?_
                        exact pd_zret (v := false) X w ⟨by rw [hp]; rfl, pd_kx.tr (pd_kx.tr (pd_kx.tr (pd_kx.tr (pd_kx.tr (pd_kx.tr (pd_kx.tr (pd_kx.tr (pd_kq.kx (k2) hy0) (pd_kq.kx (k9) f3)) (pd_kq.kx (k22) f10)) (pd_kq.kx (k29) f23)) (pd_kq.kx (k262) f30)) (pd_kq.kx (k269) f263)) (pd_kq.kx (k276) f270)) (pd_kq.kx (k287) f277)) (pd_kq.kx (k294) f288), (nI 1), (nI (gm_name cs (sA i0) (eA i0))), (nI 2), (nI (((gm_name cs (sA i0) (eA i0)) + 2) + 1)), (pd_MO.of (fv2 := fv) (iv2 := pd_fu (pd_fu (pd_fu (pd_fu iv 37 (nI 1)) 38 (nI (gm_name cs (sA i0) (eA i0)))) 39 (nI 2)) 40 (nI (((gm_name cs (sA i0) (eA i0)) + 2) + 1))) (tl2 := tl) (ts := [20]) hMO (pd_kx.tr (pd_kx.tr (pd_kx.tr (pd_kx.tr (pd_kx.tr (pd_kx.tr (pd_kx.tr (pd_kx.tr (pd_kq.kx (k2) hy0) (pd_kq.kx (k9) f3)) (pd_kq.kx (k22) f10)) (pd_kq.kx (k29) f23)) (pd_kq.kx (k262) f30)) (pd_kq.kx (k269) f263)) (pd_kq.kx (k276) f270)) (pd_kq.kx (k287) f277)) (pd_kq.kx (k294) f288)) f295 (fun j hj => Or.inr ⟨fun z => by first | (simp at z; done) | (simp at z; omega), rfl⟩)), fun t9 ht9 => by rw [hp] at ht9; cases ht9⟩ (by decide) (by decide) d_p15m16_257
                      · -- not taken: 252
                        refine lv_iconst (v := nI 1) hx hb d_p15m16_252 (by decide) ?_
                        refine lv_goto (tgt := 257) hx hb d_p15m16_253 (by decide) ?_
                        have hpt : gm_pt cs ((gm_name cs (sA i0) (eA i0)) + 2) (eA i0) = some (2, (gm_name cs (sA i0) (eA i0)) + 2 + 1) := by unfold gm_pt; rw [if_neg (by omega), if_neg (by omega), if_neg (by omega), if_pos (by rw [← e304]; omega)]
                        have hp : gm_pat cs (sA i0) (eA i0) = some (1, gm_name cs (sA i0) (eA i0), 2, (gm_name cs (sA i0) (eA i0)) + 2 + 1) := by unfold gm_pat; rw [hph]; simp only [hpt]
                        refine W.eq (g2 := F0 m 257 ls [.int (pd_b true)]) rfl ?_
                        exact pd_zret (v := true) X w ⟨by rw [hp]; rfl, pd_kx.tr (pd_kx.tr (pd_kx.tr (pd_kx.tr (pd_kx.tr (pd_kx.tr (pd_kx.tr (pd_kx.tr (pd_kq.kx (k2) hy0) (pd_kq.kx (k9) f3)) (pd_kq.kx (k22) f10)) (pd_kq.kx (k29) f23)) (pd_kq.kx (k262) f30)) (pd_kq.kx (k269) f263)) (pd_kq.kx (k276) f270)) (pd_kq.kx (k287) f277)) (pd_kq.kx (k294) f288), (nI 1), (nI (gm_name cs (sA i0) (eA i0))), (nI 2), (nI (((gm_name cs (sA i0) (eA i0)) + 2) + 1)), (pd_MO.of (fv2 := fv) (iv2 := pd_fu (pd_fu (pd_fu (pd_fu iv 37 (nI 1)) 38 (nI (gm_name cs (sA i0) (eA i0)))) 39 (nI 2)) 40 (nI (((gm_name cs (sA i0) (eA i0)) + 2) + 1))) (tl2 := tl) (ts := [20]) hMO (pd_kx.tr (pd_kx.tr (pd_kx.tr (pd_kx.tr (pd_kx.tr (pd_kx.tr (pd_kx.tr (pd_kx.tr (pd_kq.kx (k2) hy0) (pd_kq.kx (k9) f3)) (pd_kq.kx (k22) f10)) (pd_kq.kx (k29) f23)) (pd_kq.kx (k262) f30)) (pd_kq.kx (k269) f263)) (pd_kq.kx (k276) f270)) (pd_kq.kx (k287) f277)) (pd_kq.kx (k294) f288)) f295 (fun j hj => Or.inr ⟨fun z => by first | (simp at z; done) | (simp at z; omega), rfl⟩)), fun t9 ht9 => by rw [hp] at ht9; cases ht9; exact ⟨rfl, rfl, rfl, rfl⟩⟩ (by decide) (by decide) d_p15m16_257
                    · -- not taken: 210
                      refine lv_iload_n hx hb d_p15m16_210 rfl (lv_at hl 0 rfl) ?_
                      refine lv_iconst (v := nI 2) hx hb d_p15m16_211 (by decide) ?_
                      refine pd_iadd hx hb d_p15m16_212 ?_
                      refine lv_iload_n hx hb d_p15m16_213 rfl (lv_at hl 1 rfl) ?_
                      refine pd_jne (tgt := 221) hx hb d_p15m16_214 (by decide) (by omega) (by omega) (fun q306 => ?_) (fun q306 => ?_)
                      · -- taken: 221
                        refine lv_iconst (v := nI 2) hx hb d_p15m16_221 (by decide) ?_
                        refine pd_put (ty := .int) X w f277 hz_y rfl 39 (by decide) mT_1178 rfl rfl (by decide +kernel) rfl rfl (Nat.le_of_ble_eq_true rfl) d_p15m16_222 (fun H locs w => ?_)
                        have w : pd_w G s H locs (pd_up h275 y (20, .inr (10, [.ref (ad 0), .ref (ad 1), .ref (ad 2), .int (iv 3), .int (iv 4), .int (iv 5), .ref (ad 6), .ref (ad 7), .ref (ad 8), .ref (ad 9), .ref (ad 10), .ref (ad 11), .int (iv 12), .ref (ad 13), .ref (ad 14), .ref (ad 15), .ref (ad 16), .ref (ad 17), .ref (ad 18), .ref (ad 19), .int (iv 20), .ref (ad 21), .ref (ad 22), .ref (ad 23), .ref (ad 24), .ref (ad 25), .ref (ad 26), .ref (ad 27), .ref (ad 28), .int (iv 29), .ref (ad 30), .ref (ad 31), .int (iv 32), .int (iv 33), .int (iv 34), .int (iv 35), .long tl, .int (nI 1), .int (nI (gm_name cs (sA i0) (eA i0))), .int (nI 2), .int (nI (eA i0)), .ref (ad 41), .ref (ad 42), .int (iv 43)]))) := w
                        obtain ⟨h307, u310⟩ : ∃ z, z = pd_up h275 y (20, .inr (10, [.ref (ad 0), .ref (ad 1), .ref (ad 2), .int (iv 3), .int (iv 4), .int (iv 5), .ref (ad 6), .ref (ad 7), .ref (ad 8), .ref (ad 9), .ref (ad 10), .ref (ad 11), .int (iv 12), .ref (ad 13), .ref (ad 14), .ref (ad 15), .ref (ad 16), .ref (ad 17), .ref (ad 18), .ref (ad 19), .int (iv 20), .ref (ad 21), .ref (ad 22), .ref (ad 23), .ref (ad 24), .ref (ad 25), .ref (ad 26), .ref (ad 27), .ref (ad 28), .int (iv 29), .ref (ad 30), .ref (ad 31), .int (iv 32), .int (iv 33), .int (iv 34), .int (iv 35), .long tl, .int (nI 1), .int (nI (gm_name cs (sA i0) (eA i0))), .int (nI 2), .int (nI (eA i0)), .ref (ad 41), .ref (ad 42), .int (iv 43)])) := ⟨_, rfl⟩
                        rw [← u310] at w
                        have k308 : pd_kq y h275 h307 := by rw [u310]; exact pd_up_kq
                        have f309 : h307 y = some (20, .inr (10, [.ref (ad 0), .ref (ad 1), .ref (ad 2), .int (iv 3), .int (iv 4), .int (iv 5), .ref (ad 6), .ref (ad 7), .ref (ad 8), .ref (ad 9), .ref (ad 10), .ref (ad 11), .int (iv 12), .ref (ad 13), .ref (ad 14), .ref (ad 15), .ref (ad 16), .ref (ad 17), .ref (ad 18), .ref (ad 19), .int (iv 20), .ref (ad 21), .ref (ad 22), .ref (ad 23), .ref (ad 24), .ref (ad 25), .ref (ad 26), .ref (ad 27), .ref (ad 28), .int (iv 29), .ref (ad 30), .ref (ad 31), .int (iv 32), .int (iv 33), .int (iv 34), .int (iv 35), .long tl, .int (nI 1), .int (nI (gm_name cs (sA i0) (eA i0))), .int (nI 2), .int (nI (eA i0)), .ref (ad 41), .ref (ad 42), .int (iv 43)])) := by rw [u310]; exact pd_up_s _ _ _
                        have f311 := k308 _ _ (pd_ne f279 f277 (by simp)) f279
                        have f312 := k308 _ _ (pd_ne f280 f277 (by simp)) f280
                        have f313 := k308 _ _ (pd_ne f281 f277 (by simp)) f281
                        refine lv_aload_n hx hb d_p15m16_225 rfl (lv_at hl 2 rfl) ?_
                        refine lv_iload_n hx hb d_p15m16_226 rfl (lv_at hl 0 rfl) ?_
                        refine lv_iconst (v := nI 1) hx hb d_p15m16_227 (by decide) ?_
                        refine pd_iadd hx hb d_p15m16_228 ?_
                        refine pd_put (ty := .int) X w f309 hz_y rfl 40 (by decide) mT_1179 rfl rfl (by decide +kernel) rfl rfl (Nat.le_of_ble_eq_true rfl) d_p15m16_229 (fun H locs w => ?_)
                        have w : pd_w G s H locs (pd_up h307 y (20, .inr (10, [.ref (ad 0), .ref (ad 1), .ref (ad 2), .int (iv 3), .int (iv 4), .int (iv 5), .ref (ad 6), .ref (ad 7), .ref (ad 8), .ref (ad 9), .ref (ad 10), .ref (ad 11), .int (iv 12), .ref (ad 13), .ref (ad 14), .ref (ad 15), .ref (ad 16), .ref (ad 17), .ref (ad 18), .ref (ad 19), .int (iv 20), .ref (ad 21), .ref (ad 22), .ref (ad 23), .ref (ad 24), .ref (ad 25), .ref (ad 26), .ref (ad 27), .ref (ad 28), .int (iv 29), .ref (ad 30), .ref (ad 31), .int (iv 32), .int (iv 33), .int (iv 34), .int (iv 35), .long tl, .int (nI 1), .int (nI (gm_name cs (sA i0) (eA i0))), .int (nI 2), .int (nI (((gm_name cs (sA i0) (eA i0)) + 2) + 1)), .ref (ad 41), .ref (ad 42), .int (iv 43)]))) := w
                        obtain ⟨h314, u317⟩ : ∃ z, z = pd_up h307 y (20, .inr (10, [.ref (ad 0), .ref (ad 1), .ref (ad 2), .int (iv 3), .int (iv 4), .int (iv 5), .ref (ad 6), .ref (ad 7), .ref (ad 8), .ref (ad 9), .ref (ad 10), .ref (ad 11), .int (iv 12), .ref (ad 13), .ref (ad 14), .ref (ad 15), .ref (ad 16), .ref (ad 17), .ref (ad 18), .ref (ad 19), .int (iv 20), .ref (ad 21), .ref (ad 22), .ref (ad 23), .ref (ad 24), .ref (ad 25), .ref (ad 26), .ref (ad 27), .ref (ad 28), .int (iv 29), .ref (ad 30), .ref (ad 31), .int (iv 32), .int (iv 33), .int (iv 34), .int (iv 35), .long tl, .int (nI 1), .int (nI (gm_name cs (sA i0) (eA i0))), .int (nI 2), .int (nI (((gm_name cs (sA i0) (eA i0)) + 2) + 1)), .ref (ad 41), .ref (ad 42), .int (iv 43)])) := ⟨_, rfl⟩
                        rw [← u317] at w
                        have k315 : pd_kq y h307 h314 := by rw [u317]; exact pd_up_kq
                        have f316 : h314 y = some (20, .inr (10, [.ref (ad 0), .ref (ad 1), .ref (ad 2), .int (iv 3), .int (iv 4), .int (iv 5), .ref (ad 6), .ref (ad 7), .ref (ad 8), .ref (ad 9), .ref (ad 10), .ref (ad 11), .int (iv 12), .ref (ad 13), .ref (ad 14), .ref (ad 15), .ref (ad 16), .ref (ad 17), .ref (ad 18), .ref (ad 19), .int (iv 20), .ref (ad 21), .ref (ad 22), .ref (ad 23), .ref (ad 24), .ref (ad 25), .ref (ad 26), .ref (ad 27), .ref (ad 28), .int (iv 29), .ref (ad 30), .ref (ad 31), .int (iv 32), .int (iv 33), .int (iv 34), .int (iv 35), .long tl, .int (nI 1), .int (nI (gm_name cs (sA i0) (eA i0))), .int (nI 2), .int (nI (((gm_name cs (sA i0) (eA i0)) + 2) + 1)), .ref (ad 41), .ref (ad 42), .int (iv 43)])) := by rw [u317]; exact pd_up_s _ _ _
                        have f318 := k315 _ _ (pd_ne f311 f309 (by simp)) f311
                        have f319 := k315 _ _ (pd_ne f312 f309 (by simp)) f312
                        have f320 := k315 _ _ (pd_ne f313 f309 (by simp)) f313
                        refine lv_aload_n hx hb d_p15m16_232 rfl (lv_at hl 2 rfl) ?_
                        refine pd_get X w f316 rfl 39 (by decide) mT_1178 rfl rfl d_p15m16_233 ?_
                        refine lv_iconst (v := nI 1) hx hb d_p15m16_236 (by decide) ?_
                        refine pd_jeq (tgt := 252) hx hb d_p15m16_237 (by decide) (by decide) (by decide) (fun q => absurd q (by decide)) (fun _ => ?_)
                        refine lv_aload_n hx hb d_p15m16_240 rfl (lv_at hl 2 rfl) ?_
                        refine lv_iload_n hx hb d_p15m16_241 rfl (lv_at hl 0 rfl) ?_
                        refine lv_iconst (v := nI 1) hx hb d_p15m16_242 (by decide) ?_
                        refine pd_iadd hx hb d_p15m16_243 ?_
                        refine lv_iload_n hx hb d_p15m16_244 rfl (lv_at hl 1 rfl) ?_
                        refine pd_cV (a := y) (As := [.int (nI (((gm_name cs (sA i0) (eA i0)) + 2) + 1)), .int (nI (eA i0))]) (rest := []) X w f316 rfl (c_PolicyDeskModel_behindPart l G h314 (ad := ad) (fv := fv) (iv := pd_fu (pd_fu (pd_fu (pd_fu iv 37 (nI 1)) 38 (nI (gm_name cs (sA i0) (eA i0)))) 39 (nI 2)) 40 (nI (((gm_name cs (sA i0) (eA i0)) + 2) + 1))) (tl := tl) (pd_MO.of (fv2 := fv) (iv2 := pd_fu (pd_fu (pd_fu (pd_fu iv 37 (nI 1)) 38 (nI (gm_name cs (sA i0) (eA i0)))) 39 (nI 2)) 40 (nI (((gm_name cs (sA i0) (eA i0)) + 2) + 1))) (tl2 := tl) (ts := [20]) hMO (pd_kx.tr (pd_kx.tr (pd_kx.tr (pd_kx.tr (pd_kx.tr (pd_kx.tr (pd_kx.tr (pd_kx.tr (pd_kq.kx (k2) hy0) (pd_kq.kx (k9) f3)) (pd_kq.kx (k22) f10)) (pd_kq.kx (k29) f23)) (pd_kq.kx (k262) f30)) (pd_kq.kx (k269) f263)) (pd_kq.kx (k276) f270)) (pd_kq.kx (k308) f277)) (pd_kq.kx (k315) f309)) f316 (fun j hj => Or.inr ⟨fun z => by first | (simp at z; done) | (simp at z; omega), rfl⟩)) hL (by omega) (by omega)) ok_PolicyDeskModel_behindPart ⟨mT_1315, sT_19⟩ mT_1313 ⟨by decide, by decide⟩ rfl hl.1 rfl (Nat.le_of_ble_eq_true rfl) d_p15m16_245 ⟨by decide, by decide⟩ (fun r322 h323 H locs hp324 w => ?_)
                        refine W.widen (k := 0) (n := 0) (by decide) (by decide) ?_
                        obtain ⟨e325, rfl⟩ := hp324
                        have hpl := gm_part_le (cs := cs) (x := (gm_name cs (sA i0) (eA i0)) + 2 + 1) (to := eA i0) (by omega)
                        refine lv_iload_n hx hb d_p15m16_248 rfl (lv_at hl 1 rfl) ?_
                        refine pd_jne (tgt := 256) hx hb d_p15m16_249 (by decide) (by omega) (by omega) (fun q326 => ?_) (fun q326 => ?_)
                        · -- taken: 256
                          refine lv_iconst (v := nI 0) hx hb d_p15m16_256 (by decide) ?_
                          have hpt : gm_pt cs ((gm_name cs (sA i0) (eA i0)) + 2) (eA i0) = none := by unfold gm_pt; rw [if_neg (by omega), if_neg (by omega), if_neg (by omega), if_neg (by rw [← e325]; omega)]
                          have hp : gm_pat cs (sA i0) (eA i0) = none := by unfold gm_pat; rw [hph]; simp only [hpt]
                          refine W.eq (g2 := F0 m 257 ls [.int (pd_b false)]) rfl ?_
                          exact pd_zret (v := false) X w ⟨by rw [hp]; rfl, pd_kx.tr (pd_kx.tr (pd_kx.tr (pd_kx.tr (pd_kx.tr (pd_kx.tr (pd_kx.tr (pd_kx.tr (pd_kq.kx (k2) hy0) (pd_kq.kx (k9) f3)) (pd_kq.kx (k22) f10)) (pd_kq.kx (k29) f23)) (pd_kq.kx (k262) f30)) (pd_kq.kx (k269) f263)) (pd_kq.kx (k276) f270)) (pd_kq.kx (k308) f277)) (pd_kq.kx (k315) f309), (nI 1), (nI (gm_name cs (sA i0) (eA i0))), (nI 2), (nI (((gm_name cs (sA i0) (eA i0)) + 2) + 1)), (pd_MO.of (fv2 := fv) (iv2 := pd_fu (pd_fu (pd_fu (pd_fu iv 37 (nI 1)) 38 (nI (gm_name cs (sA i0) (eA i0)))) 39 (nI 2)) 40 (nI (((gm_name cs (sA i0) (eA i0)) + 2) + 1))) (tl2 := tl) (ts := [20]) hMO (pd_kx.tr (pd_kx.tr (pd_kx.tr (pd_kx.tr (pd_kx.tr (pd_kx.tr (pd_kx.tr (pd_kx.tr (pd_kq.kx (k2) hy0) (pd_kq.kx (k9) f3)) (pd_kq.kx (k22) f10)) (pd_kq.kx (k29) f23)) (pd_kq.kx (k262) f30)) (pd_kq.kx (k269) f263)) (pd_kq.kx (k276) f270)) (pd_kq.kx (k308) f277)) (pd_kq.kx (k315) f309)) f316 (fun j hj => Or.inr ⟨fun z => by first | (simp at z; done) | (simp at z; omega), rfl⟩)), fun t9 ht9 => by rw [hp] at ht9; cases ht9⟩ (by decide) (by decide) d_p15m16_257
                        · -- not taken: 252
                          refine lv_iconst (v := nI 1) hx hb d_p15m16_252 (by decide) ?_
                          refine lv_goto (tgt := 257) hx hb d_p15m16_253 (by decide) ?_
                          have hpt : gm_pt cs ((gm_name cs (sA i0) (eA i0)) + 2) (eA i0) = some (2, (gm_name cs (sA i0) (eA i0)) + 2 + 1) := by unfold gm_pt; rw [if_neg (by omega), if_neg (by omega), if_neg (by omega), if_pos (by rw [← e325]; omega)]
                          have hp : gm_pat cs (sA i0) (eA i0) = some (1, gm_name cs (sA i0) (eA i0), 2, (gm_name cs (sA i0) (eA i0)) + 2 + 1) := by unfold gm_pat; rw [hph]; simp only [hpt]
                          refine W.eq (g2 := F0 m 257 ls [.int (pd_b true)]) rfl ?_
                          exact pd_zret (v := true) X w ⟨by rw [hp]; rfl, pd_kx.tr (pd_kx.tr (pd_kx.tr (pd_kx.tr (pd_kx.tr (pd_kx.tr (pd_kx.tr (pd_kx.tr (pd_kq.kx (k2) hy0) (pd_kq.kx (k9) f3)) (pd_kq.kx (k22) f10)) (pd_kq.kx (k29) f23)) (pd_kq.kx (k262) f30)) (pd_kq.kx (k269) f263)) (pd_kq.kx (k276) f270)) (pd_kq.kx (k308) f277)) (pd_kq.kx (k315) f309), (nI 1), (nI (gm_name cs (sA i0) (eA i0))), (nI 2), (nI (((gm_name cs (sA i0) (eA i0)) + 2) + 1)), (pd_MO.of (fv2 := fv) (iv2 := pd_fu (pd_fu (pd_fu (pd_fu iv 37 (nI 1)) 38 (nI (gm_name cs (sA i0) (eA i0)))) 39 (nI 2)) 40 (nI (((gm_name cs (sA i0) (eA i0)) + 2) + 1))) (tl2 := tl) (ts := [20]) hMO (pd_kx.tr (pd_kx.tr (pd_kx.tr (pd_kx.tr (pd_kx.tr (pd_kx.tr (pd_kx.tr (pd_kx.tr (pd_kq.kx (k2) hy0) (pd_kq.kx (k9) f3)) (pd_kq.kx (k22) f10)) (pd_kq.kx (k29) f23)) (pd_kq.kx (k262) f30)) (pd_kq.kx (k269) f263)) (pd_kq.kx (k276) f270)) (pd_kq.kx (k308) f277)) (pd_kq.kx (k315) f309)) f316 (fun j hj => Or.inr ⟨fun z => by first | (simp at z; done) | (simp at z; omega), rfl⟩)), fun t9 ht9 => by rw [hp] at ht9; cases ht9; exact ⟨rfl, rfl, rfl, rfl⟩⟩ (by decide) (by decide) d_p15m16_257
                      · -- not taken: 217
                        refine lv_iconst (v := nI 1) hx hb d_p15m16_217 (by decide) ?_
                        refine lv_goto (tgt := 222) hx hb d_p15m16_218 (by decide) ?_
                        refine pd_put (ty := .int) X w f277 hz_y rfl 39 (by decide) mT_1178 rfl rfl (by decide +kernel) rfl rfl (Nat.le_of_ble_eq_true rfl) d_p15m16_222 (fun H locs w => ?_)
                        have w : pd_w G s H locs (pd_up h275 y (20, .inr (10, [.ref (ad 0), .ref (ad 1), .ref (ad 2), .int (iv 3), .int (iv 4), .int (iv 5), .ref (ad 6), .ref (ad 7), .ref (ad 8), .ref (ad 9), .ref (ad 10), .ref (ad 11), .int (iv 12), .ref (ad 13), .ref (ad 14), .ref (ad 15), .ref (ad 16), .ref (ad 17), .ref (ad 18), .ref (ad 19), .int (iv 20), .ref (ad 21), .ref (ad 22), .ref (ad 23), .ref (ad 24), .ref (ad 25), .ref (ad 26), .ref (ad 27), .ref (ad 28), .int (iv 29), .ref (ad 30), .ref (ad 31), .int (iv 32), .int (iv 33), .int (iv 34), .int (iv 35), .long tl, .int (nI 1), .int (nI (gm_name cs (sA i0) (eA i0))), .int (nI 1), .int (nI (eA i0)), .ref (ad 41), .ref (ad 42), .int (iv 43)]))) := w
                        obtain ⟨h327, u330⟩ : ∃ z, z = pd_up h275 y (20, .inr (10, [.ref (ad 0), .ref (ad 1), .ref (ad 2), .int (iv 3), .int (iv 4), .int (iv 5), .ref (ad 6), .ref (ad 7), .ref (ad 8), .ref (ad 9), .ref (ad 10), .ref (ad 11), .int (iv 12), .ref (ad 13), .ref (ad 14), .ref (ad 15), .ref (ad 16), .ref (ad 17), .ref (ad 18), .ref (ad 19), .int (iv 20), .ref (ad 21), .ref (ad 22), .ref (ad 23), .ref (ad 24), .ref (ad 25), .ref (ad 26), .ref (ad 27), .ref (ad 28), .int (iv 29), .ref (ad 30), .ref (ad 31), .int (iv 32), .int (iv 33), .int (iv 34), .int (iv 35), .long tl, .int (nI 1), .int (nI (gm_name cs (sA i0) (eA i0))), .int (nI 1), .int (nI (eA i0)), .ref (ad 41), .ref (ad 42), .int (iv 43)])) := ⟨_, rfl⟩
                        rw [← u330] at w
                        have k328 : pd_kq y h275 h327 := by rw [u330]; exact pd_up_kq
                        have f329 : h327 y = some (20, .inr (10, [.ref (ad 0), .ref (ad 1), .ref (ad 2), .int (iv 3), .int (iv 4), .int (iv 5), .ref (ad 6), .ref (ad 7), .ref (ad 8), .ref (ad 9), .ref (ad 10), .ref (ad 11), .int (iv 12), .ref (ad 13), .ref (ad 14), .ref (ad 15), .ref (ad 16), .ref (ad 17), .ref (ad 18), .ref (ad 19), .int (iv 20), .ref (ad 21), .ref (ad 22), .ref (ad 23), .ref (ad 24), .ref (ad 25), .ref (ad 26), .ref (ad 27), .ref (ad 28), .int (iv 29), .ref (ad 30), .ref (ad 31), .int (iv 32), .int (iv 33), .int (iv 34), .int (iv 35), .long tl, .int (nI 1), .int (nI (gm_name cs (sA i0) (eA i0))), .int (nI 1), .int (nI (eA i0)), .ref (ad 41), .ref (ad 42), .int (iv 43)])) := by rw [u330]; exact pd_up_s _ _ _
                        have f331 := k328 _ _ (pd_ne f279 f277 (by simp)) f279
                        have f332 := k328 _ _ (pd_ne f280 f277 (by simp)) f280
                        have f333 := k328 _ _ (pd_ne f281 f277 (by simp)) f281
                        refine lv_aload_n hx hb d_p15m16_225 rfl (lv_at hl 2 rfl) ?_
                        refine lv_iload_n hx hb d_p15m16_226 rfl (lv_at hl 0 rfl) ?_
                        refine lv_iconst (v := nI 1) hx hb d_p15m16_227 (by decide) ?_
                        refine pd_iadd hx hb d_p15m16_228 ?_
                        refine pd_put (ty := .int) X w f329 hz_y rfl 40 (by decide) mT_1179 rfl rfl (by decide +kernel) rfl rfl (Nat.le_of_ble_eq_true rfl) d_p15m16_229 (fun H locs w => ?_)
                        have w : pd_w G s H locs (pd_up h327 y (20, .inr (10, [.ref (ad 0), .ref (ad 1), .ref (ad 2), .int (iv 3), .int (iv 4), .int (iv 5), .ref (ad 6), .ref (ad 7), .ref (ad 8), .ref (ad 9), .ref (ad 10), .ref (ad 11), .int (iv 12), .ref (ad 13), .ref (ad 14), .ref (ad 15), .ref (ad 16), .ref (ad 17), .ref (ad 18), .ref (ad 19), .int (iv 20), .ref (ad 21), .ref (ad 22), .ref (ad 23), .ref (ad 24), .ref (ad 25), .ref (ad 26), .ref (ad 27), .ref (ad 28), .int (iv 29), .ref (ad 30), .ref (ad 31), .int (iv 32), .int (iv 33), .int (iv 34), .int (iv 35), .long tl, .int (nI 1), .int (nI (gm_name cs (sA i0) (eA i0))), .int (nI 1), .int (nI (((gm_name cs (sA i0) (eA i0)) + 2) + 1)), .ref (ad 41), .ref (ad 42), .int (iv 43)]))) := w
                        obtain ⟨h334, u337⟩ : ∃ z, z = pd_up h327 y (20, .inr (10, [.ref (ad 0), .ref (ad 1), .ref (ad 2), .int (iv 3), .int (iv 4), .int (iv 5), .ref (ad 6), .ref (ad 7), .ref (ad 8), .ref (ad 9), .ref (ad 10), .ref (ad 11), .int (iv 12), .ref (ad 13), .ref (ad 14), .ref (ad 15), .ref (ad 16), .ref (ad 17), .ref (ad 18), .ref (ad 19), .int (iv 20), .ref (ad 21), .ref (ad 22), .ref (ad 23), .ref (ad 24), .ref (ad 25), .ref (ad 26), .ref (ad 27), .ref (ad 28), .int (iv 29), .ref (ad 30), .ref (ad 31), .int (iv 32), .int (iv 33), .int (iv 34), .int (iv 35), .long tl, .int (nI 1), .int (nI (gm_name cs (sA i0) (eA i0))), .int (nI 1), .int (nI (((gm_name cs (sA i0) (eA i0)) + 2) + 1)), .ref (ad 41), .ref (ad 42), .int (iv 43)])) := ⟨_, rfl⟩
                        rw [← u337] at w
                        have k335 : pd_kq y h327 h334 := by rw [u337]; exact pd_up_kq
                        have f336 : h334 y = some (20, .inr (10, [.ref (ad 0), .ref (ad 1), .ref (ad 2), .int (iv 3), .int (iv 4), .int (iv 5), .ref (ad 6), .ref (ad 7), .ref (ad 8), .ref (ad 9), .ref (ad 10), .ref (ad 11), .int (iv 12), .ref (ad 13), .ref (ad 14), .ref (ad 15), .ref (ad 16), .ref (ad 17), .ref (ad 18), .ref (ad 19), .int (iv 20), .ref (ad 21), .ref (ad 22), .ref (ad 23), .ref (ad 24), .ref (ad 25), .ref (ad 26), .ref (ad 27), .ref (ad 28), .int (iv 29), .ref (ad 30), .ref (ad 31), .int (iv 32), .int (iv 33), .int (iv 34), .int (iv 35), .long tl, .int (nI 1), .int (nI (gm_name cs (sA i0) (eA i0))), .int (nI 1), .int (nI (((gm_name cs (sA i0) (eA i0)) + 2) + 1)), .ref (ad 41), .ref (ad 42), .int (iv 43)])) := by rw [u337]; exact pd_up_s _ _ _
                        have f338 := k335 _ _ (pd_ne f331 f329 (by simp)) f331
                        have f339 := k335 _ _ (pd_ne f332 f329 (by simp)) f332
                        have f340 := k335 _ _ (pd_ne f333 f329 (by simp)) f333
                        refine lv_aload_n hx hb d_p15m16_232 rfl (lv_at hl 2 rfl) ?_
                        refine pd_get X w f336 rfl 39 (by decide) mT_1178 rfl rfl d_p15m16_233 ?_
                        refine lv_iconst (v := nI 1) hx hb d_p15m16_236 (by decide) ?_
                        refine pd_jeq (tgt := 252) hx hb d_p15m16_237 (by decide) (by decide) (by decide) (fun _ => ?_) (fun q => absurd q (by decide))
                        refine lv_iconst (v := nI 1) hx hb d_p15m16_252 (by decide) ?_
                        refine lv_goto (tgt := 257) hx hb d_p15m16_253 (by decide) ?_
                        have hpt : gm_pt cs ((gm_name cs (sA i0) (eA i0)) + 2) (eA i0) = some (1, (gm_name cs (sA i0) (eA i0)) + 2 + 1) := by unfold gm_pt; rw [if_neg (by omega), if_neg (by omega), if_pos (by omega)]
                        have hp : gm_pat cs (sA i0) (eA i0) = some (1, gm_name cs (sA i0) (eA i0), 1, (gm_name cs (sA i0) (eA i0)) + 2 + 1) := by unfold gm_pat; rw [hph]; simp only [hpt]
                        refine W.eq (g2 := F0 m 257 ls [.int (pd_b true)]) rfl ?_
                        exact pd_zret (v := true) X w ⟨by rw [hp]; rfl, pd_kx.tr (pd_kx.tr (pd_kx.tr (pd_kx.tr (pd_kx.tr (pd_kx.tr (pd_kx.tr (pd_kx.tr (pd_kq.kx (k2) hy0) (pd_kq.kx (k9) f3)) (pd_kq.kx (k22) f10)) (pd_kq.kx (k29) f23)) (pd_kq.kx (k262) f30)) (pd_kq.kx (k269) f263)) (pd_kq.kx (k276) f270)) (pd_kq.kx (k328) f277)) (pd_kq.kx (k335) f329), (nI 1), (nI (gm_name cs (sA i0) (eA i0))), (nI 1), (nI (((gm_name cs (sA i0) (eA i0)) + 2) + 1)), (pd_MO.of (fv2 := fv) (iv2 := pd_fu (pd_fu (pd_fu (pd_fu iv 37 (nI 1)) 38 (nI (gm_name cs (sA i0) (eA i0)))) 39 (nI 1)) 40 (nI (((gm_name cs (sA i0) (eA i0)) + 2) + 1))) (tl2 := tl) (ts := [20]) hMO (pd_kx.tr (pd_kx.tr (pd_kx.tr (pd_kx.tr (pd_kx.tr (pd_kx.tr (pd_kx.tr (pd_kx.tr (pd_kq.kx (k2) hy0) (pd_kq.kx (k9) f3)) (pd_kq.kx (k22) f10)) (pd_kq.kx (k29) f23)) (pd_kq.kx (k262) f30)) (pd_kq.kx (k269) f263)) (pd_kq.kx (k276) f270)) (pd_kq.kx (k328) f277)) (pd_kq.kx (k335) f329)) f336 (fun j hj => Or.inr ⟨fun z => by first | (simp at z; done) | (simp at z; omega), rfl⟩)), fun t9 ht9 => by rw [hp] at ht9; cases ht9; exact ⟨rfl, rfl, rfl, rfl⟩⟩ (by decide) (by decide) d_p15m16_257
                  · -- not taken: 194
                    refine lv_iconst (v := nI 0) hx hb d_p15m16_194 (by decide) ?_
                    have hpt : gm_pt cs ((gm_name cs (sA i0) (eA i0)) + 2) (eA i0) = none := by unfold gm_pt; rw [if_neg (by omega), if_pos (by omega)]
                    have hp : gm_pat cs (sA i0) (eA i0) = none := by unfold gm_pat; rw [hph]; simp only [hpt]
                    refine W.eq (g2 := F0 m 195 ls [.int (pd_b false)]) rfl ?_
                    exact pd_zret (v := false) X w ⟨by rw [hp]; rfl, pd_kx.tr (pd_kx.tr (pd_kx.tr (pd_kx.tr (pd_kx.tr (pd_kx.tr (pd_kq.kx (k2) hy0) (pd_kq.kx (k9) f3)) (pd_kq.kx (k22) f10)) (pd_kq.kx (k29) f23)) (pd_kq.kx (k262) f30)) (pd_kq.kx (k269) f263)) (pd_kq.kx (k276) f270), (nI 1), (nI (gm_name cs (sA i0) (eA i0))), (nI 0), (nI (eA i0)), (pd_MO.of (fv2 := fv) (iv2 := pd_fu (pd_fu (pd_fu (pd_fu iv 37 (nI 1)) 38 (nI (gm_name cs (sA i0) (eA i0)))) 39 (nI 0)) 40 (nI (eA i0))) (tl2 := tl) (ts := [20]) hMO (pd_kx.tr (pd_kx.tr (pd_kx.tr (pd_kx.tr (pd_kx.tr (pd_kx.tr (pd_kq.kx (k2) hy0) (pd_kq.kx (k9) f3)) (pd_kq.kx (k22) f10)) (pd_kq.kx (k29) f23)) (pd_kq.kx (k262) f30)) (pd_kq.kx (k269) f263)) (pd_kq.kx (k276) f270)) f277 (fun j hj => Or.inr ⟨fun z => by first | (simp at z; done) | (simp at z; omega), rfl⟩)), fun t9 ht9 => by rw [hp] at ht9; cases ht9⟩ (by decide) (by decide) d_p15m16_195
              · -- not taken: 174
                refine lv_iconst (v := nI 1) hx hb d_p15m16_174 (by decide) ?_
                have hpt : gm_pt cs ((gm_name cs (sA i0) (eA i0)) + 2) (eA i0) = some (0, eA i0) := by unfold gm_pt; rw [if_pos (by omega)]
                have hp : gm_pat cs (sA i0) (eA i0) = some (1, gm_name cs (sA i0) (eA i0), 0, eA i0) := by unfold gm_pat; rw [hph]; simp only [hpt]
                refine W.eq (g2 := F0 m 175 ls [.int (pd_b true)]) rfl ?_
                exact pd_zret (v := true) X w ⟨by rw [hp]; rfl, pd_kx.tr (pd_kx.tr (pd_kx.tr (pd_kx.tr (pd_kx.tr (pd_kx.tr (pd_kq.kx (k2) hy0) (pd_kq.kx (k9) f3)) (pd_kq.kx (k22) f10)) (pd_kq.kx (k29) f23)) (pd_kq.kx (k262) f30)) (pd_kq.kx (k269) f263)) (pd_kq.kx (k276) f270), (nI 1), (nI (gm_name cs (sA i0) (eA i0))), (nI 0), (nI (eA i0)), (pd_MO.of (fv2 := fv) (iv2 := pd_fu (pd_fu (pd_fu (pd_fu iv 37 (nI 1)) 38 (nI (gm_name cs (sA i0) (eA i0)))) 39 (nI 0)) 40 (nI (eA i0))) (tl2 := tl) (ts := [20]) hMO (pd_kx.tr (pd_kx.tr (pd_kx.tr (pd_kx.tr (pd_kx.tr (pd_kx.tr (pd_kq.kx (k2) hy0) (pd_kq.kx (k9) f3)) (pd_kq.kx (k22) f10)) (pd_kq.kx (k29) f23)) (pd_kq.kx (k262) f30)) (pd_kq.kx (k269) f263)) (pd_kq.kx (k276) f270)) f277 (fun j hj => Or.inr ⟨fun z => by first | (simp at z; done) | (simp at z; omega), rfl⟩)), fun t9 ht9 => by rw [hp] at ht9; cases ht9; exact ⟨rfl, rfl, rfl, rfl⟩⟩ (by decide) (by decide) d_p15m16_175
            · -- not taken: 129
              refine lv_aload_n hx hb d_p15m16_129 rfl (lv_at hl 2 rfl) ?_
              refine pd_get X w f30 rfl 0 (by decide) mT_1139 rfl rfl d_p15m16_130 ?_
              refine lv_iload_n hx hb d_p15m16_133 rfl (lv_at hl 0 rfl) ?_
              refine lv_iconst (v := nI 2) hx hb d_p15m16_134 (by decide) ?_
              refine pd_iadd hx hb d_p15m16_135 ?_
              refine pd_iald X w f32 (by omega) (by omega) d_p15m16_136 ?_
              refine pd_top (v' := .int (nI (cs.getD ((gm_name cs (sA i0) (eA i0)) + 2) 0))) (congrArg Value.int (hln _ (by omega))) ?_
              have := tx_lt hlc ((gm_name cs (sA i0) (eA i0)) + 2)
              refine lv_bipush (v := nI 42) hx hb d_p15m16_137 (by decide) ?_
              refine pd_jne (tgt := 146) hx hb d_p15m16_139 (by decide) (by omega) (by omega) (fun q342 => ?_) (fun q342 => ?_)
              · -- taken: 146
                refine lv_iconst (v := nI 1) hx hb d_p15m16_146 (by decide) ?_
                refine pd_put (ty := .int) X w f30 hz_y rfl 37 (by decide) mT_1176 rfl rfl (by decide +kernel) rfl rfl (Nat.le_of_ble_eq_true rfl) d_p15m16_147 (fun H locs w => ?_)
                have w : pd_w G s H locs (pd_up h28 y (20, .inr (10, [.ref (ad 0), .ref (ad 1), .ref (ad 2), .int (iv 3), .int (iv 4), .int (iv 5), .ref (ad 6), .ref (ad 7), .ref (ad 8), .ref (ad 9), .ref (ad 10), .ref (ad 11), .int (iv 12), .ref (ad 13), .ref (ad 14), .ref (ad 15), .ref (ad 16), .ref (ad 17), .ref (ad 18), .ref (ad 19), .int (iv 20), .ref (ad 21), .ref (ad 22), .ref (ad 23), .ref (ad 24), .ref (ad 25), .ref (ad 26), .ref (ad 27), .ref (ad 28), .int (iv 29), .ref (ad 30), .ref (ad 31), .int (iv 32), .int (iv 33), .int (iv 34), .int (iv 35), .long tl, .int (nI 1), .int (nI (gm_name cs (sA i0) (eA i0))), .int (iv 39), .int (iv 40), .ref (ad 41), .ref (ad 42), .int (iv 43)]))) := w
                obtain ⟨h343, u346⟩ : ∃ z, z = pd_up h28 y (20, .inr (10, [.ref (ad 0), .ref (ad 1), .ref (ad 2), .int (iv 3), .int (iv 4), .int (iv 5), .ref (ad 6), .ref (ad 7), .ref (ad 8), .ref (ad 9), .ref (ad 10), .ref (ad 11), .int (iv 12), .ref (ad 13), .ref (ad 14), .ref (ad 15), .ref (ad 16), .ref (ad 17), .ref (ad 18), .ref (ad 19), .int (iv 20), .ref (ad 21), .ref (ad 22), .ref (ad 23), .ref (ad 24), .ref (ad 25), .ref (ad 26), .ref (ad 27), .ref (ad 28), .int (iv 29), .ref (ad 30), .ref (ad 31), .int (iv 32), .int (iv 33), .int (iv 34), .int (iv 35), .long tl, .int (nI 1), .int (nI (gm_name cs (sA i0) (eA i0))), .int (iv 39), .int (iv 40), .ref (ad 41), .ref (ad 42), .int (iv 43)])) := ⟨_, rfl⟩
                rw [← u346] at w
                have k344 : pd_kq y h28 h343 := by rw [u346]; exact pd_up_kq
                have f345 : h343 y = some (20, .inr (10, [.ref (ad 0), .ref (ad 1), .ref (ad 2), .int (iv 3), .int (iv 4), .int (iv 5), .ref (ad 6), .ref (ad 7), .ref (ad 8), .ref (ad 9), .ref (ad 10), .ref (ad 11), .int (iv 12), .ref (ad 13), .ref (ad 14), .ref (ad 15), .ref (ad 16), .ref (ad 17), .ref (ad 18), .ref (ad 19), .int (iv 20), .ref (ad 21), .ref (ad 22), .ref (ad 23), .ref (ad 24), .ref (ad 25), .ref (ad 26), .ref (ad 27), .ref (ad 28), .int (iv 29), .ref (ad 30), .ref (ad 31), .int (iv 32), .int (iv 33), .int (iv 34), .int (iv 35), .long tl, .int (nI 1), .int (nI (gm_name cs (sA i0) (eA i0))), .int (iv 39), .int (iv 40), .ref (ad 41), .ref (ad 42), .int (iv 43)])) := by rw [u346]; exact pd_up_s _ _ _
                have f347 := k344 _ _ (pd_ne f32 f30 (by simp)) f32
                have f348 := k344 _ _ (pd_ne f33 f30 (by simp)) f33
                have f349 := k344 _ _ (pd_ne f34 f30 (by simp)) f34
                refine lv_iload_n hx hb d_p15m16_150 rfl (lv_at hl 0 rfl) ?_
                refine lv_iconst (v := nI 1) hx hb d_p15m16_151 (by decide) ?_
                refine lv_aload_n hx hb d_p15m16_152 rfl (lv_at hl 2 rfl) ?_
                refine pd_get X w f345 rfl 37 (by decide) mT_1176 rfl rfl d_p15m16_153 ?_
                refine pd_iadd hx hb d_p15m16_156 ?_
                refine pd_iadd hx hb d_p15m16_157 ?_
                refine lv_istore_n (lv' := [(2, .int (nI ((gm_name cs (sA i0) (eA i0)) + 2))), (3, .int (nI (eA i0))), (0, .ref y), (1, .int (nI i0))]) hx hb d_p15m16_158 rfl hl (by decide) rfl (fun ls hl => ?_)
                have hph : gm_ph cs (sA i0) (eA i0) = some (1, gm_name cs (sA i0) (eA i0), (gm_name cs (sA i0) (eA i0)) + 2) := by unfold gm_ph; rw [if_neg (by omega), if_neg (by omega), if_pos (by omega), if_neg (by omega)]
                refine lv_aload_n hx hb d_p15m16_159 rfl (lv_at hl 2 rfl) ?_
                refine lv_iconst (v := nI 0) hx hb d_p15m16_160 (by decide) ?_
                refine pd_put (ty := .int) X w f345 hz_y rfl 39 (by decide) mT_1178 rfl rfl (by decide +kernel) rfl rfl (Nat.le_of_ble_eq_true rfl) d_p15m16_161 (fun H locs w => ?_)
                have w : pd_w G s H locs (pd_up h343 y (20, .inr (10, [.ref (ad 0), .ref (ad 1), .ref (ad 2), .int (iv 3), .int (iv 4), .int (iv 5), .ref (ad 6), .ref (ad 7), .ref (ad 8), .ref (ad 9), .ref (ad 10), .ref (ad 11), .int (iv 12), .ref (ad 13), .ref (ad 14), .ref (ad 15), .ref (ad 16), .ref (ad 17), .ref (ad 18), .ref (ad 19), .int (iv 20), .ref (ad 21), .ref (ad 22), .ref (ad 23), .ref (ad 24), .ref (ad 25), .ref (ad 26), .ref (ad 27), .ref (ad 28), .int (iv 29), .ref (ad 30), .ref (ad 31), .int (iv 32), .int (iv 33), .int (iv 34), .int (iv 35), .long tl, .int (nI 1), .int (nI (gm_name cs (sA i0) (eA i0))), .int (nI 0), .int (iv 40), .ref (ad 41), .ref (ad 42), .int (iv 43)]))) := w
                obtain ⟨h350, u353⟩ : ∃ z, z = pd_up h343 y (20, .inr (10, [.ref (ad 0), .ref (ad 1), .ref (ad 2), .int (iv 3), .int (iv 4), .int (iv 5), .ref (ad 6), .ref (ad 7), .ref (ad 8), .ref (ad 9), .ref (ad 10), .ref (ad 11), .int (iv 12), .ref (ad 13), .ref (ad 14), .ref (ad 15), .ref (ad 16), .ref (ad 17), .ref (ad 18), .ref (ad 19), .int (iv 20), .ref (ad 21), .ref (ad 22), .ref (ad 23), .ref (ad 24), .ref (ad 25), .ref (ad 26), .ref (ad 27), .ref (ad 28), .int (iv 29), .ref (ad 30), .ref (ad 31), .int (iv 32), .int (iv 33), .int (iv 34), .int (iv 35), .long tl, .int (nI 1), .int (nI (gm_name cs (sA i0) (eA i0))), .int (nI 0), .int (iv 40), .ref (ad 41), .ref (ad 42), .int (iv 43)])) := ⟨_, rfl⟩
                rw [← u353] at w
                have k351 : pd_kq y h343 h350 := by rw [u353]; exact pd_up_kq
                have f352 : h350 y = some (20, .inr (10, [.ref (ad 0), .ref (ad 1), .ref (ad 2), .int (iv 3), .int (iv 4), .int (iv 5), .ref (ad 6), .ref (ad 7), .ref (ad 8), .ref (ad 9), .ref (ad 10), .ref (ad 11), .int (iv 12), .ref (ad 13), .ref (ad 14), .ref (ad 15), .ref (ad 16), .ref (ad 17), .ref (ad 18), .ref (ad 19), .int (iv 20), .ref (ad 21), .ref (ad 22), .ref (ad 23), .ref (ad 24), .ref (ad 25), .ref (ad 26), .ref (ad 27), .ref (ad 28), .int (iv 29), .ref (ad 30), .ref (ad 31), .int (iv 32), .int (iv 33), .int (iv 34), .int (iv 35), .long tl, .int (nI 1), .int (nI (gm_name cs (sA i0) (eA i0))), .int (nI 0), .int (iv 40), .ref (ad 41), .ref (ad 42), .int (iv 43)])) := by rw [u353]; exact pd_up_s _ _ _
                have f354 := k351 _ _ (pd_ne f347 f345 (by simp)) f347
                have f355 := k351 _ _ (pd_ne f348 f345 (by simp)) f348
                have f356 := k351 _ _ (pd_ne f349 f345 (by simp)) f349
                refine lv_aload_n hx hb d_p15m16_164 rfl (lv_at hl 2 rfl) ?_
                refine lv_iload_n hx hb d_p15m16_165 rfl (lv_at hl 1 rfl) ?_
                refine pd_put (ty := .int) X w f352 hz_y rfl 40 (by decide) mT_1179 rfl rfl (by decide +kernel) rfl rfl (Nat.le_of_ble_eq_true rfl) d_p15m16_166 (fun H locs w => ?_)
                have w : pd_w G s H locs (pd_up h350 y (20, .inr (10, [.ref (ad 0), .ref (ad 1), .ref (ad 2), .int (iv 3), .int (iv 4), .int (iv 5), .ref (ad 6), .ref (ad 7), .ref (ad 8), .ref (ad 9), .ref (ad 10), .ref (ad 11), .int (iv 12), .ref (ad 13), .ref (ad 14), .ref (ad 15), .ref (ad 16), .ref (ad 17), .ref (ad 18), .ref (ad 19), .int (iv 20), .ref (ad 21), .ref (ad 22), .ref (ad 23), .ref (ad 24), .ref (ad 25), .ref (ad 26), .ref (ad 27), .ref (ad 28), .int (iv 29), .ref (ad 30), .ref (ad 31), .int (iv 32), .int (iv 33), .int (iv 34), .int (iv 35), .long tl, .int (nI 1), .int (nI (gm_name cs (sA i0) (eA i0))), .int (nI 0), .int (nI (eA i0)), .ref (ad 41), .ref (ad 42), .int (iv 43)]))) := w
                obtain ⟨h357, u360⟩ : ∃ z, z = pd_up h350 y (20, .inr (10, [.ref (ad 0), .ref (ad 1), .ref (ad 2), .int (iv 3), .int (iv 4), .int (iv 5), .ref (ad 6), .ref (ad 7), .ref (ad 8), .ref (ad 9), .ref (ad 10), .ref (ad 11), .int (iv 12), .ref (ad 13), .ref (ad 14), .ref (ad 15), .ref (ad 16), .ref (ad 17), .ref (ad 18), .ref (ad 19), .int (iv 20), .ref (ad 21), .ref (ad 22), .ref (ad 23), .ref (ad 24), .ref (ad 25), .ref (ad 26), .ref (ad 27), .ref (ad 28), .int (iv 29), .ref (ad 30), .ref (ad 31), .int (iv 32), .int (iv 33), .int (iv 34), .int (iv 35), .long tl, .int (nI 1), .int (nI (gm_name cs (sA i0) (eA i0))), .int (nI 0), .int (nI (eA i0)), .ref (ad 41), .ref (ad 42), .int (iv 43)])) := ⟨_, rfl⟩
                rw [← u360] at w
                have k358 : pd_kq y h350 h357 := by rw [u360]; exact pd_up_kq
                have f359 : h357 y = some (20, .inr (10, [.ref (ad 0), .ref (ad 1), .ref (ad 2), .int (iv 3), .int (iv 4), .int (iv 5), .ref (ad 6), .ref (ad 7), .ref (ad 8), .ref (ad 9), .ref (ad 10), .ref (ad 11), .int (iv 12), .ref (ad 13), .ref (ad 14), .ref (ad 15), .ref (ad 16), .ref (ad 17), .ref (ad 18), .ref (ad 19), .int (iv 20), .ref (ad 21), .ref (ad 22), .ref (ad 23), .ref (ad 24), .ref (ad 25), .ref (ad 26), .ref (ad 27), .ref (ad 28), .int (iv 29), .ref (ad 30), .ref (ad 31), .int (iv 32), .int (iv 33), .int (iv 34), .int (iv 35), .long tl, .int (nI 1), .int (nI (gm_name cs (sA i0) (eA i0))), .int (nI 0), .int (nI (eA i0)), .ref (ad 41), .ref (ad 42), .int (iv 43)])) := by rw [u360]; exact pd_up_s _ _ _
                have f361 := k358 _ _ (pd_ne f354 f352 (by simp)) f354
                have f362 := k358 _ _ (pd_ne f355 f352 (by simp)) f355
                have f363 := k358 _ _ (pd_ne f356 f352 (by simp)) f356
                refine lv_iload_n hx hb d_p15m16_169 rfl (lv_at hl 0 rfl) ?_
                refine lv_iload_n hx hb d_p15m16_170 rfl (lv_at hl 1 rfl) ?_
                refine pd_jne (tgt := 176) hx hb d_p15m16_171 (by decide) (by omega) (by omega) (fun q364 => ?_) (fun q364 => ?_)
                · -- taken: 176
                  refine lv_aload_n hx hb d_p15m16_176 rfl (lv_at hl 2 rfl) ?_
                  refine pd_get X w f359 rfl 0 (by decide) mT_1139 rfl rfl d_p15m16_177 ?_
                  refine lv_iload_n hx hb d_p15m16_180 rfl (lv_at hl 0 rfl) ?_
                  refine pd_iald X w f361 (by omega) (by omega) d_p15m16_181 ?_
                  refine pd_top (v' := .int (nI (cs.getD ((gm_name cs (sA i0) (eA i0)) + 2) 0))) (congrArg Value.int (hln _ (by omega))) ?_
                  have := tx_lt hlc ((gm_name cs (sA i0) (eA i0)) + 2)
                  refine lv_bipush (v := nI 46) hx hb d_p15m16_182 (by decide) ?_
                  refine pd_jne (tgt := 194) hx hb d_p15m16_184 (by decide) (by omega) (by omega) (fun q365 => ?_) (fun q365 => ?_)
                  · -- taken: 194
                    refine lv_iconst (v := nI 0) hx hb d_p15m16_194 (by decide) ?_
                    have hpt : gm_pt cs ((gm_name cs (sA i0) (eA i0)) + 2) (eA i0) = none := by unfold gm_pt; rw [if_neg (by omega), if_pos (by omega)]
                    have hp : gm_pat cs (sA i0) (eA i0) = none := by unfold gm_pat; rw [hph]; simp only [hpt]
                    refine W.eq (g2 := F0 m 195 ls [.int (pd_b false)]) rfl ?_
                    exact pd_zret (v := false) X w ⟨by rw [hp]; rfl, pd_kx.tr (pd_kx.tr (pd_kx.tr (pd_kx.tr (pd_kx.tr (pd_kx.tr (pd_kq.kx (k2) hy0) (pd_kq.kx (k9) f3)) (pd_kq.kx (k22) f10)) (pd_kq.kx (k29) f23)) (pd_kq.kx (k344) f30)) (pd_kq.kx (k351) f345)) (pd_kq.kx (k358) f352), (nI 1), (nI (gm_name cs (sA i0) (eA i0))), (nI 0), (nI (eA i0)), (pd_MO.of (fv2 := fv) (iv2 := pd_fu (pd_fu (pd_fu (pd_fu iv 37 (nI 1)) 38 (nI (gm_name cs (sA i0) (eA i0)))) 39 (nI 0)) 40 (nI (eA i0))) (tl2 := tl) (ts := [20]) hMO (pd_kx.tr (pd_kx.tr (pd_kx.tr (pd_kx.tr (pd_kx.tr (pd_kx.tr (pd_kq.kx (k2) hy0) (pd_kq.kx (k9) f3)) (pd_kq.kx (k22) f10)) (pd_kq.kx (k29) f23)) (pd_kq.kx (k344) f30)) (pd_kq.kx (k351) f345)) (pd_kq.kx (k358) f352)) f359 (fun j hj => Or.inr ⟨fun z => by first | (simp at z; done) | (simp at z; omega), rfl⟩)), fun t9 ht9 => by rw [hp] at ht9; cases ht9⟩ (by decide) (by decide) d_p15m16_195
                  · -- not taken: 187
                    refine lv_iload_n hx hb d_p15m16_187 rfl (lv_at hl 0 rfl) ?_
                    refine lv_iconst (v := nI 1) hx hb d_p15m16_188 (by decide) ?_
                    refine pd_iadd hx hb d_p15m16_189 ?_
                    refine lv_iload_n hx hb d_p15m16_190 rfl (lv_at hl 1 rfl) ?_
                    refine pd_jne (tgt := 196) hx hb d_p15m16_191 (by decide) (by omega) (by omega) (fun q366 => ?_) (fun q366 => ?_)
                    · -- taken: 196
                      refine lv_aload_n hx hb d_p15m16_196 rfl (lv_at hl 2 rfl) ?_
                      refine lv_aload_n hx hb d_p15m16_197 rfl (lv_at hl 2 rfl) ?_
                      refine pd_get X w f359 rfl 0 (by decide) mT_1139 rfl rfl d_p15m16_198 ?_
                      refine lv_iload_n hx hb d_p15m16_201 rfl (lv_at hl 0 rfl) ?_
                      refine lv_iconst (v := nI 1) hx hb d_p15m16_202 (by decide) ?_
                      refine pd_iadd hx hb d_p15m16_203 ?_
                      refine pd_iald X w f361 (by omega) (by omega) d_p15m16_204 ?_
                      refine pd_top (v' := .int (nI (cs.getD (((gm_name cs (sA i0) (eA i0)) + 2) + 1) 0))) (congrArg Value.int (hln _ (by omega))) ?_
                      have := tx_lt hlc (((gm_name cs (sA i0) (eA i0)) + 2) + 1)
                      refine lv_bipush (v := nI 42) hx hb d_p15m16_205 (by decide) ?_
                      refine pd_jne (tgt := 221) hx hb d_p15m16_207 (by decide) (by omega) (by omega) (fun q367 => ?_) (fun q367 => ?_)
                      · -- taken: 221
                        refine lv_iconst (v := nI 2) hx hb d_p15m16_221 (by decide) ?_
                        refine pd_put (ty := .int) X w f359 hz_y rfl 39 (by decide) mT_1178 rfl rfl (by decide +kernel) rfl rfl (Nat.le_of_ble_eq_true rfl) d_p15m16_222 (fun H locs w => ?_)
                        have w : pd_w G s H locs (pd_up h357 y (20, .inr (10, [.ref (ad 0), .ref (ad 1), .ref (ad 2), .int (iv 3), .int (iv 4), .int (iv 5), .ref (ad 6), .ref (ad 7), .ref (ad 8), .ref (ad 9), .ref (ad 10), .ref (ad 11), .int (iv 12), .ref (ad 13), .ref (ad 14), .ref (ad 15), .ref (ad 16), .ref (ad 17), .ref (ad 18), .ref (ad 19), .int (iv 20), .ref (ad 21), .ref (ad 22), .ref (ad 23), .ref (ad 24), .ref (ad 25), .ref (ad 26), .ref (ad 27), .ref (ad 28), .int (iv 29), .ref (ad 30), .ref (ad 31), .int (iv 32), .int (iv 33), .int (iv 34), .int (iv 35), .long tl, .int (nI 1), .int (nI (gm_name cs (sA i0) (eA i0))), .int (nI 2), .int (nI (eA i0)), .ref (ad 41), .ref (ad 42), .int (iv 43)]))) := w
                        obtain ⟨h368, u371⟩ : ∃ z, z = pd_up h357 y (20, .inr (10, [.ref (ad 0), .ref (ad 1), .ref (ad 2), .int (iv 3), .int (iv 4), .int (iv 5), .ref (ad 6), .ref (ad 7), .ref (ad 8), .ref (ad 9), .ref (ad 10), .ref (ad 11), .int (iv 12), .ref (ad 13), .ref (ad 14), .ref (ad 15), .ref (ad 16), .ref (ad 17), .ref (ad 18), .ref (ad 19), .int (iv 20), .ref (ad 21), .ref (ad 22), .ref (ad 23), .ref (ad 24), .ref (ad 25), .ref (ad 26), .ref (ad 27), .ref (ad 28), .int (iv 29), .ref (ad 30), .ref (ad 31), .int (iv 32), .int (iv 33), .int (iv 34), .int (iv 35), .long tl, .int (nI 1), .int (nI (gm_name cs (sA i0) (eA i0))), .int (nI 2), .int (nI (eA i0)), .ref (ad 41), .ref (ad 42), .int (iv 43)])) := ⟨_, rfl⟩
                        rw [← u371] at w
                        have k369 : pd_kq y h357 h368 := by rw [u371]; exact pd_up_kq
                        have f370 : h368 y = some (20, .inr (10, [.ref (ad 0), .ref (ad 1), .ref (ad 2), .int (iv 3), .int (iv 4), .int (iv 5), .ref (ad 6), .ref (ad 7), .ref (ad 8), .ref (ad 9), .ref (ad 10), .ref (ad 11), .int (iv 12), .ref (ad 13), .ref (ad 14), .ref (ad 15), .ref (ad 16), .ref (ad 17), .ref (ad 18), .ref (ad 19), .int (iv 20), .ref (ad 21), .ref (ad 22), .ref (ad 23), .ref (ad 24), .ref (ad 25), .ref (ad 26), .ref (ad 27), .ref (ad 28), .int (iv 29), .ref (ad 30), .ref (ad 31), .int (iv 32), .int (iv 33), .int (iv 34), .int (iv 35), .long tl, .int (nI 1), .int (nI (gm_name cs (sA i0) (eA i0))), .int (nI 2), .int (nI (eA i0)), .ref (ad 41), .ref (ad 42), .int (iv 43)])) := by rw [u371]; exact pd_up_s _ _ _
                        have f372 := k369 _ _ (pd_ne f361 f359 (by simp)) f361
                        have f373 := k369 _ _ (pd_ne f362 f359 (by simp)) f362
                        have f374 := k369 _ _ (pd_ne f363 f359 (by simp)) f363
                        refine lv_aload_n hx hb d_p15m16_225 rfl (lv_at hl 2 rfl) ?_
                        refine lv_iload_n hx hb d_p15m16_226 rfl (lv_at hl 0 rfl) ?_
                        refine lv_iconst (v := nI 1) hx hb d_p15m16_227 (by decide) ?_
                        refine pd_iadd hx hb d_p15m16_228 ?_
                        refine pd_put (ty := .int) X w f370 hz_y rfl 40 (by decide) mT_1179 rfl rfl (by decide +kernel) rfl rfl (Nat.le_of_ble_eq_true rfl) d_p15m16_229 (fun H locs w => ?_)
                        have w : pd_w G s H locs (pd_up h368 y (20, .inr (10, [.ref (ad 0), .ref (ad 1), .ref (ad 2), .int (iv 3), .int (iv 4), .int (iv 5), .ref (ad 6), .ref (ad 7), .ref (ad 8), .ref (ad 9), .ref (ad 10), .ref (ad 11), .int (iv 12), .ref (ad 13), .ref (ad 14), .ref (ad 15), .ref (ad 16), .ref (ad 17), .ref (ad 18), .ref (ad 19), .int (iv 20), .ref (ad 21), .ref (ad 22), .ref (ad 23), .ref (ad 24), .ref (ad 25), .ref (ad 26), .ref (ad 27), .ref (ad 28), .int (iv 29), .ref (ad 30), .ref (ad 31), .int (iv 32), .int (iv 33), .int (iv 34), .int (iv 35), .long tl, .int (nI 1), .int (nI (gm_name cs (sA i0) (eA i0))), .int (nI 2), .int (nI (((gm_name cs (sA i0) (eA i0)) + 2) + 1)), .ref (ad 41), .ref (ad 42), .int (iv 43)]))) := w
                        obtain ⟨h375, u378⟩ : ∃ z, z = pd_up h368 y (20, .inr (10, [.ref (ad 0), .ref (ad 1), .ref (ad 2), .int (iv 3), .int (iv 4), .int (iv 5), .ref (ad 6), .ref (ad 7), .ref (ad 8), .ref (ad 9), .ref (ad 10), .ref (ad 11), .int (iv 12), .ref (ad 13), .ref (ad 14), .ref (ad 15), .ref (ad 16), .ref (ad 17), .ref (ad 18), .ref (ad 19), .int (iv 20), .ref (ad 21), .ref (ad 22), .ref (ad 23), .ref (ad 24), .ref (ad 25), .ref (ad 26), .ref (ad 27), .ref (ad 28), .int (iv 29), .ref (ad 30), .ref (ad 31), .int (iv 32), .int (iv 33), .int (iv 34), .int (iv 35), .long tl, .int (nI 1), .int (nI (gm_name cs (sA i0) (eA i0))), .int (nI 2), .int (nI (((gm_name cs (sA i0) (eA i0)) + 2) + 1)), .ref (ad 41), .ref (ad 42), .int (iv 43)])) := ⟨_, rfl⟩
                        rw [← u378] at w
                        have k376 : pd_kq y h368 h375 := by rw [u378]; exact pd_up_kq
                        have f377 : h375 y = some (20, .inr (10, [.ref (ad 0), .ref (ad 1), .ref (ad 2), .int (iv 3), .int (iv 4), .int (iv 5), .ref (ad 6), .ref (ad 7), .ref (ad 8), .ref (ad 9), .ref (ad 10), .ref (ad 11), .int (iv 12), .ref (ad 13), .ref (ad 14), .ref (ad 15), .ref (ad 16), .ref (ad 17), .ref (ad 18), .ref (ad 19), .int (iv 20), .ref (ad 21), .ref (ad 22), .ref (ad 23), .ref (ad 24), .ref (ad 25), .ref (ad 26), .ref (ad 27), .ref (ad 28), .int (iv 29), .ref (ad 30), .ref (ad 31), .int (iv 32), .int (iv 33), .int (iv 34), .int (iv 35), .long tl, .int (nI 1), .int (nI (gm_name cs (sA i0) (eA i0))), .int (nI 2), .int (nI (((gm_name cs (sA i0) (eA i0)) + 2) + 1)), .ref (ad 41), .ref (ad 42), .int (iv 43)])) := by rw [u378]; exact pd_up_s _ _ _
                        have f379 := k376 _ _ (pd_ne f372 f370 (by simp)) f372
                        have f380 := k376 _ _ (pd_ne f373 f370 (by simp)) f373
                        have f381 := k376 _ _ (pd_ne f374 f370 (by simp)) f374
                        refine lv_aload_n hx hb d_p15m16_232 rfl (lv_at hl 2 rfl) ?_
                        refine pd_get X w f377 rfl 39 (by decide) mT_1178 rfl rfl d_p15m16_233 ?_
                        refine lv_iconst (v := nI 1) hx hb d_p15m16_236 (by decide) ?_
                        refine pd_jeq (tgt := 252) hx hb d_p15m16_237 (by decide) (by decide) (by decide) (fun q => absurd q (by decide)) (fun _ => ?_)
                        refine lv_aload_n hx hb d_p15m16_240 rfl (lv_at hl 2 rfl) ?_
                        refine lv_iload_n hx hb d_p15m16_241 rfl (lv_at hl 0 rfl) ?_
                        refine lv_iconst (v := nI 1) hx hb d_p15m16_242 (by decide) ?_
                        refine pd_iadd hx hb d_p15m16_243 ?_
                        refine lv_iload_n hx hb d_p15m16_244 rfl (lv_at hl 1 rfl) ?_
                        refine pd_cV (a := y) (As := [.int (nI (((gm_name cs (sA i0) (eA i0)) + 2) + 1)), .int (nI (eA i0))]) (rest := []) X w f377 rfl (c_PolicyDeskModel_behindPart l G h375 (ad := ad) (fv := fv) (iv := pd_fu (pd_fu (pd_fu (pd_fu iv 37 (nI 1)) 38 (nI (gm_name cs (sA i0) (eA i0)))) 39 (nI 2)) 40 (nI (((gm_name cs (sA i0) (eA i0)) + 2) + 1))) (tl := tl) (pd_MO.of (fv2 := fv) (iv2 := pd_fu (pd_fu (pd_fu (pd_fu iv 37 (nI 1)) 38 (nI (gm_name cs (sA i0) (eA i0)))) 39 (nI 2)) 40 (nI (((gm_name cs (sA i0) (eA i0)) + 2) + 1))) (tl2 := tl) (ts := [20]) hMO (pd_kx.tr (pd_kx.tr (pd_kx.tr (pd_kx.tr (pd_kx.tr (pd_kx.tr (pd_kx.tr (pd_kx.tr (pd_kq.kx (k2) hy0) (pd_kq.kx (k9) f3)) (pd_kq.kx (k22) f10)) (pd_kq.kx (k29) f23)) (pd_kq.kx (k344) f30)) (pd_kq.kx (k351) f345)) (pd_kq.kx (k358) f352)) (pd_kq.kx (k369) f359)) (pd_kq.kx (k376) f370)) f377 (fun j hj => Or.inr ⟨fun z => by first | (simp at z; done) | (simp at z; omega), rfl⟩)) hL (by omega) (by omega)) ok_PolicyDeskModel_behindPart ⟨mT_1315, sT_19⟩ mT_1313 ⟨by decide, by decide⟩ rfl hl.1 rfl (Nat.le_of_ble_eq_true rfl) d_p15m16_245 ⟨by decide, by decide⟩ (fun r383 h384 H locs hp385 w => ?_)
                        refine W.widen (k := 0) (n := 0) (by decide) (by decide) ?_
                        obtain ⟨e386, rfl⟩ := hp385
                        have hpl := gm_part_le (cs := cs) (x := (gm_name cs (sA i0) (eA i0)) + 2 + 1) (to := eA i0) (by omega)
                        refine lv_iload_n hx hb d_p15m16_248 rfl (lv_at hl 1 rfl) ?_
                        refine pd_jne (tgt := 256) hx hb d_p15m16_249 (by decide) (by omega) (by omega) (fun q387 => ?_) (fun q387 => ?_)
                        · -- taken: 256
                          refine lv_iconst (v := nI 0) hx hb d_p15m16_256 (by decide) ?_
                          have hpt : gm_pt cs ((gm_name cs (sA i0) (eA i0)) + 2) (eA i0) = none := by unfold gm_pt; rw [if_neg (by omega), if_neg (by omega), if_neg (by omega), if_neg (by rw [← e386]; omega)]
                          have hp : gm_pat cs (sA i0) (eA i0) = none := by unfold gm_pat; rw [hph]; simp only [hpt]
                          refine W.eq (g2 := F0 m 257 ls [.int (pd_b false)]) rfl ?_
                          exact pd_zret (v := false) X w ⟨by rw [hp]; rfl, pd_kx.tr (pd_kx.tr (pd_kx.tr (pd_kx.tr (pd_kx.tr (pd_kx.tr (pd_kx.tr (pd_kx.tr (pd_kq.kx (k2) hy0) (pd_kq.kx (k9) f3)) (pd_kq.kx (k22) f10)) (pd_kq.kx (k29) f23)) (pd_kq.kx (k344) f30)) (pd_kq.kx (k351) f345)) (pd_kq.kx (k358) f352)) (pd_kq.kx (k369) f359)) (pd_kq.kx (k376) f370), (nI 1), (nI (gm_name cs (sA i0) (eA i0))), (nI 2), (nI (((gm_name cs (sA i0) (eA i0)) + 2) + 1)), (pd_MO.of (fv2 := fv) (iv2 := pd_fu (pd_fu (pd_fu (pd_fu iv 37 (nI 1)) 38 (nI (gm_name cs (sA i0) (eA i0)))) 39 (nI 2)) 40 (nI (((gm_name cs (sA i0) (eA i0)) + 2) + 1))) (tl2 := tl) (ts := [20]) hMO (pd_kx.tr (pd_kx.tr (pd_kx.tr (pd_kx.tr (pd_kx.tr (pd_kx.tr (pd_kx.tr (pd_kx.tr (pd_kq.kx (k2) hy0) (pd_kq.kx (k9) f3)) (pd_kq.kx (k22) f10)) (pd_kq.kx (k29) f23)) (pd_kq.kx (k344) f30)) (pd_kq.kx (k351) f345)) (pd_kq.kx (k358) f352)) (pd_kq.kx (k369) f359)) (pd_kq.kx (k376) f370)) f377 (fun j hj => Or.inr ⟨fun z => by first | (simp at z; done) | (simp at z; omega), rfl⟩)), fun t9 ht9 => by rw [hp] at ht9; cases ht9⟩ (by decide) (by decide) d_p15m16_257
                        · -- not taken: 252
                          refine lv_iconst (v := nI 1) hx hb d_p15m16_252 (by decide) ?_
                          refine lv_goto (tgt := 257) hx hb d_p15m16_253 (by decide) ?_
                          have hpt : gm_pt cs ((gm_name cs (sA i0) (eA i0)) + 2) (eA i0) = some (2, (gm_name cs (sA i0) (eA i0)) + 2 + 1) := by unfold gm_pt; rw [if_neg (by omega), if_neg (by omega), if_neg (by omega), if_pos (by rw [← e386]; omega)]
                          have hp : gm_pat cs (sA i0) (eA i0) = some (1, gm_name cs (sA i0) (eA i0), 2, (gm_name cs (sA i0) (eA i0)) + 2 + 1) := by unfold gm_pat; rw [hph]; simp only [hpt]
                          refine W.eq (g2 := F0 m 257 ls [.int (pd_b true)]) rfl ?_
                          exact pd_zret (v := true) X w ⟨by rw [hp]; rfl, pd_kx.tr (pd_kx.tr (pd_kx.tr (pd_kx.tr (pd_kx.tr (pd_kx.tr (pd_kx.tr (pd_kx.tr (pd_kq.kx (k2) hy0) (pd_kq.kx (k9) f3)) (pd_kq.kx (k22) f10)) (pd_kq.kx (k29) f23)) (pd_kq.kx (k344) f30)) (pd_kq.kx (k351) f345)) (pd_kq.kx (k358) f352)) (pd_kq.kx (k369) f359)) (pd_kq.kx (k376) f370), (nI 1), (nI (gm_name cs (sA i0) (eA i0))), (nI 2), (nI (((gm_name cs (sA i0) (eA i0)) + 2) + 1)), (pd_MO.of (fv2 := fv) (iv2 := pd_fu (pd_fu (pd_fu (pd_fu iv 37 (nI 1)) 38 (nI (gm_name cs (sA i0) (eA i0)))) 39 (nI 2)) 40 (nI (((gm_name cs (sA i0) (eA i0)) + 2) + 1))) (tl2 := tl) (ts := [20]) hMO (pd_kx.tr (pd_kx.tr (pd_kx.tr (pd_kx.tr (pd_kx.tr (pd_kx.tr (pd_kx.tr (pd_kx.tr (pd_kq.kx (k2) hy0) (pd_kq.kx (k9) f3)) (pd_kq.kx (k22) f10)) (pd_kq.kx (k29) f23)) (pd_kq.kx (k344) f30)) (pd_kq.kx (k351) f345)) (pd_kq.kx (k358) f352)) (pd_kq.kx (k369) f359)) (pd_kq.kx (k376) f370)) f377 (fun j hj => Or.inr ⟨fun z => by first | (simp at z; done) | (simp at z; omega), rfl⟩)), fun t9 ht9 => by rw [hp] at ht9; cases ht9; exact ⟨rfl, rfl, rfl, rfl⟩⟩ (by decide) (by decide) d_p15m16_257
                      · -- not taken: 210
                        refine lv_iload_n hx hb d_p15m16_210 rfl (lv_at hl 0 rfl) ?_
                        refine lv_iconst (v := nI 2) hx hb d_p15m16_211 (by decide) ?_
                        refine pd_iadd hx hb d_p15m16_212 ?_
                        refine lv_iload_n hx hb d_p15m16_213 rfl (lv_at hl 1 rfl) ?_
                        refine pd_jne (tgt := 221) hx hb d_p15m16_214 (by decide) (by omega) (by omega) (fun q388 => ?_) (fun q388 => ?_)
                        · -- taken: 221
                          refine lv_iconst (v := nI 2) hx hb d_p15m16_221 (by decide) ?_
                          refine pd_put (ty := .int) X w f359 hz_y rfl 39 (by decide) mT_1178 rfl rfl (by decide +kernel) rfl rfl (Nat.le_of_ble_eq_true rfl) d_p15m16_222 (fun H locs w => ?_)
                          have w : pd_w G s H locs (pd_up h357 y (20, .inr (10, [.ref (ad 0), .ref (ad 1), .ref (ad 2), .int (iv 3), .int (iv 4), .int (iv 5), .ref (ad 6), .ref (ad 7), .ref (ad 8), .ref (ad 9), .ref (ad 10), .ref (ad 11), .int (iv 12), .ref (ad 13), .ref (ad 14), .ref (ad 15), .ref (ad 16), .ref (ad 17), .ref (ad 18), .ref (ad 19), .int (iv 20), .ref (ad 21), .ref (ad 22), .ref (ad 23), .ref (ad 24), .ref (ad 25), .ref (ad 26), .ref (ad 27), .ref (ad 28), .int (iv 29), .ref (ad 30), .ref (ad 31), .int (iv 32), .int (iv 33), .int (iv 34), .int (iv 35), .long tl, .int (nI 1), .int (nI (gm_name cs (sA i0) (eA i0))), .int (nI 2), .int (nI (eA i0)), .ref (ad 41), .ref (ad 42), .int (iv 43)]))) := w
                          obtain ⟨h389, u392⟩ : ∃ z, z = pd_up h357 y (20, .inr (10, [.ref (ad 0), .ref (ad 1), .ref (ad 2), .int (iv 3), .int (iv 4), .int (iv 5), .ref (ad 6), .ref (ad 7), .ref (ad 8), .ref (ad 9), .ref (ad 10), .ref (ad 11), .int (iv 12), .ref (ad 13), .ref (ad 14), .ref (ad 15), .ref (ad 16), .ref (ad 17), .ref (ad 18), .ref (ad 19), .int (iv 20), .ref (ad 21), .ref (ad 22), .ref (ad 23), .ref (ad 24), .ref (ad 25), .ref (ad 26), .ref (ad 27), .ref (ad 28), .int (iv 29), .ref (ad 30), .ref (ad 31), .int (iv 32), .int (iv 33), .int (iv 34), .int (iv 35), .long tl, .int (nI 1), .int (nI (gm_name cs (sA i0) (eA i0))), .int (nI 2), .int (nI (eA i0)), .ref (ad 41), .ref (ad 42), .int (iv 43)])) := ⟨_, rfl⟩
                          rw [← u392] at w
                          have k390 : pd_kq y h357 h389 := by rw [u392]; exact pd_up_kq
                          have f391 : h389 y = some (20, .inr (10, [.ref (ad 0), .ref (ad 1), .ref (ad 2), .int (iv 3), .int (iv 4), .int (iv 5), .ref (ad 6), .ref (ad 7), .ref (ad 8), .ref (ad 9), .ref (ad 10), .ref (ad 11), .int (iv 12), .ref (ad 13), .ref (ad 14), .ref (ad 15), .ref (ad 16), .ref (ad 17), .ref (ad 18), .ref (ad 19), .int (iv 20), .ref (ad 21), .ref (ad 22), .ref (ad 23), .ref (ad 24), .ref (ad 25), .ref (ad 26), .ref (ad 27), .ref (ad 28), .int (iv 29), .ref (ad 30), .ref (ad 31), .int (iv 32), .int (iv 33), .int (iv 34), .int (iv 35), .long tl, .int (nI 1), .int (nI (gm_name cs (sA i0) (eA i0))), .int (nI 2), .int (nI (eA i0)), .ref (ad 41), .ref (ad 42), .int (iv 43)])) := by rw [u392]; exact pd_up_s _ _ _
                          have f393 := k390 _ _ (pd_ne f361 f359 (by simp)) f361
                          have f394 := k390 _ _ (pd_ne f362 f359 (by simp)) f362
                          have f395 := k390 _ _ (pd_ne f363 f359 (by simp)) f363
                          refine lv_aload_n hx hb d_p15m16_225 rfl (lv_at hl 2 rfl) ?_
                          refine lv_iload_n hx hb d_p15m16_226 rfl (lv_at hl 0 rfl) ?_
                          refine lv_iconst (v := nI 1) hx hb d_p15m16_227 (by decide) ?_
                          refine pd_iadd hx hb d_p15m16_228 ?_
                          refine pd_put (ty := .int) X w f391 hz_y rfl 40 (by decide) mT_1179 rfl rfl (by decide +kernel) rfl rfl (Nat.le_of_ble_eq_true rfl) d_p15m16_229 (fun H locs w => ?_)
                          have w : pd_w G s H locs (pd_up h389 y (20, .inr (10, [.ref (ad 0), .ref (ad 1), .ref (ad 2), .int (iv 3), .int (iv 4), .int (iv 5), .ref (ad 6), .ref (ad 7), .ref (ad 8), .ref (ad 9), .ref (ad 10), .ref (ad 11), .int (iv 12), .ref (ad 13), .ref (ad 14), .ref (ad 15), .ref (ad 16), .ref (ad 17), .ref (ad 18), .ref (ad 19), .int (iv 20), .ref (ad 21), .ref (ad 22), .ref (ad 23), .ref (ad 24), .ref (ad 25), .ref (ad 26), .ref (ad 27), .ref (ad 28), .int (iv 29), .ref (ad 30), .ref (ad 31), .int (iv 32), .int (iv 33), .int (iv 34), .int (iv 35), .long tl, .int (nI 1), .int (nI (gm_name cs (sA i0) (eA i0))), .int (nI 2), .int (nI (((gm_name cs (sA i0) (eA i0)) + 2) + 1)), .ref (ad 41), .ref (ad 42), .int (iv 43)]))) := w
                          obtain ⟨h396, u399⟩ : ∃ z, z = pd_up h389 y (20, .inr (10, [.ref (ad 0), .ref (ad 1), .ref (ad 2), .int (iv 3), .int (iv 4), .int (iv 5), .ref (ad 6), .ref (ad 7), .ref (ad 8), .ref (ad 9), .ref (ad 10), .ref (ad 11), .int (iv 12), .ref (ad 13), .ref (ad 14), .ref (ad 15), .ref (ad 16), .ref (ad 17), .ref (ad 18), .ref (ad 19), .int (iv 20), .ref (ad 21), .ref (ad 22), .ref (ad 23), .ref (ad 24), .ref (ad 25), .ref (ad 26), .ref (ad 27), .ref (ad 28), .int (iv 29), .ref (ad 30), .ref (ad 31), .int (iv 32), .int (iv 33), .int (iv 34), .int (iv 35), .long tl, .int (nI 1), .int (nI (gm_name cs (sA i0) (eA i0))), .int (nI 2), .int (nI (((gm_name cs (sA i0) (eA i0)) + 2) + 1)), .ref (ad 41), .ref (ad 42), .int (iv 43)])) := ⟨_, rfl⟩
                          rw [← u399] at w
                          have k397 : pd_kq y h389 h396 := by rw [u399]; exact pd_up_kq
                          have f398 : h396 y = some (20, .inr (10, [.ref (ad 0), .ref (ad 1), .ref (ad 2), .int (iv 3), .int (iv 4), .int (iv 5), .ref (ad 6), .ref (ad 7), .ref (ad 8), .ref (ad 9), .ref (ad 10), .ref (ad 11), .int (iv 12), .ref (ad 13), .ref (ad 14), .ref (ad 15), .ref (ad 16), .ref (ad 17), .ref (ad 18), .ref (ad 19), .int (iv 20), .ref (ad 21), .ref (ad 22), .ref (ad 23), .ref (ad 24), .ref (ad 25), .ref (ad 26), .ref (ad 27), .ref (ad 28), .int (iv 29), .ref (ad 30), .ref (ad 31), .int (iv 32), .int (iv 33), .int (iv 34), .int (iv 35), .long tl, .int (nI 1), .int (nI (gm_name cs (sA i0) (eA i0))), .int (nI 2), .int (nI (((gm_name cs (sA i0) (eA i0)) + 2) + 1)), .ref (ad 41), .ref (ad 42), .int (iv 43)])) := by rw [u399]; exact pd_up_s _ _ _
                          have f400 := k397 _ _ (pd_ne f393 f391 (by simp)) f393
                          have f401 := k397 _ _ (pd_ne f394 f391 (by simp)) f394
                          have f402 := k397 _ _ (pd_ne f395 f391 (by simp)) f395
                          refine lv_aload_n hx hb d_p15m16_232 rfl (lv_at hl 2 rfl) ?_
                          refine pd_get X w f398 rfl 39 (by decide) mT_1178 rfl rfl d_p15m16_233 ?_
                          refine lv_iconst (v := nI 1) hx hb d_p15m16_236 (by decide) ?_
                          refine pd_jeq (tgt := 252) hx hb d_p15m16_237 (by decide) (by decide) (by decide) (fun q => absurd q (by decide)) (fun _ => ?_)
                          refine lv_aload_n hx hb d_p15m16_240 rfl (lv_at hl 2 rfl) ?_
                          refine lv_iload_n hx hb d_p15m16_241 rfl (lv_at hl 0 rfl) ?_
                          refine lv_iconst (v := nI 1) hx hb d_p15m16_242 (by decide) ?_
                          refine pd_iadd hx hb d_p15m16_243 ?_
                          refine lv_iload_n hx hb d_p15m16_244 rfl (lv_at hl 1 rfl) ?_
                          refine pd_cV (a := y) (As := [.int (nI (((gm_name cs (sA i0) (eA i0)) + 2) + 1)), .int (nI (eA i0))]) (rest := []) X w f398 rfl (c_PolicyDeskModel_behindPart l G h396 (ad := ad) (fv := fv) (iv := pd_fu (pd_fu (pd_fu (pd_fu iv 37 (nI 1)) 38 (nI (gm_name cs (sA i0) (eA i0)))) 39 (nI 2)) 40 (nI (((gm_name cs (sA i0) (eA i0)) + 2) + 1))) (tl := tl) (pd_MO.of (fv2 := fv) (iv2 := pd_fu (pd_fu (pd_fu (pd_fu iv 37 (nI 1)) 38 (nI (gm_name cs (sA i0) (eA i0)))) 39 (nI 2)) 40 (nI (((gm_name cs (sA i0) (eA i0)) + 2) + 1))) (tl2 := tl) (ts := [20]) hMO (pd_kx.tr (pd_kx.tr (pd_kx.tr (pd_kx.tr (pd_kx.tr (pd_kx.tr (pd_kx.tr (pd_kx.tr (pd_kq.kx (k2) hy0) (pd_kq.kx (k9) f3)) (pd_kq.kx (k22) f10)) (pd_kq.kx (k29) f23)) (pd_kq.kx (k344) f30)) (pd_kq.kx (k351) f345)) (pd_kq.kx (k358) f352)) (pd_kq.kx (k390) f359)) (pd_kq.kx (k397) f391)) f398 (fun j hj => Or.inr ⟨fun z => by first | (simp at z; done) | (simp at z; omega), rfl⟩)) hL (by omega) (by omega)) ok_PolicyDeskModel_behindPart ⟨mT_1315, sT_19⟩ mT_1313 ⟨by decide, by decide⟩ rfl hl.1 rfl (Nat.le_of_ble_eq_true rfl) d_p15m16_245 ⟨by decide, by decide⟩ (fun r404 h405 H locs hp406 w => ?_)
                          refine W.widen (k := 0) (n := 0) (by decide) (by decide) ?_
                          obtain ⟨e407, rfl⟩ := hp406
                          have hpl := gm_part_le (cs := cs) (x := (gm_name cs (sA i0) (eA i0)) + 2 + 1) (to := eA i0) (by omega)
                          refine lv_iload_n hx hb d_p15m16_248 rfl (lv_at hl 1 rfl) ?_
                          refine pd_jne (tgt := 256) hx hb d_p15m16_249 (by decide) (by omega) (by omega) (fun q408 => ?_) (fun q408 => ?_)
                          · -- taken: 256
                            refine lv_iconst (v := nI 0) hx hb d_p15m16_256 (by decide) ?_
                            have hpt : gm_pt cs ((gm_name cs (sA i0) (eA i0)) + 2) (eA i0) = none := by unfold gm_pt; rw [if_neg (by omega), if_neg (by omega), if_neg (by omega), if_neg (by rw [← e407]; omega)]
                            have hp : gm_pat cs (sA i0) (eA i0) = none := by unfold gm_pat; rw [hph]; simp only [hpt]
                            refine W.eq (g2 := F0 m 257 ls [.int (pd_b false)]) rfl ?_
                            exact pd_zret (v := false) X w ⟨by rw [hp]; rfl, pd_kx.tr (pd_kx.tr (pd_kx.tr (pd_kx.tr (pd_kx.tr (pd_kx.tr (pd_kx.tr (pd_kx.tr (pd_kq.kx (k2) hy0) (pd_kq.kx (k9) f3)) (pd_kq.kx (k22) f10)) (pd_kq.kx (k29) f23)) (pd_kq.kx (k344) f30)) (pd_kq.kx (k351) f345)) (pd_kq.kx (k358) f352)) (pd_kq.kx (k390) f359)) (pd_kq.kx (k397) f391), (nI 1), (nI (gm_name cs (sA i0) (eA i0))), (nI 2), (nI (((gm_name cs (sA i0) (eA i0)) + 2) + 1)), (pd_MO.of (fv2 := fv) (iv2 := pd_fu (pd_fu (pd_fu (pd_fu iv 37 (nI 1)) 38 (nI (gm_name cs (sA i0) (eA i0)))) 39 (nI 2)) 40 (nI (((gm_name cs (sA i0) (eA i0)) + 2) + 1))) (tl2 := tl) (ts := [20]) hMO (pd_kx.tr (pd_kx.tr (pd_kx.tr (pd_kx.tr (pd_kx.tr (pd_kx.tr (pd_kx.tr (pd_kx.tr (pd_kq.kx (k2) hy0) (pd_kq.kx (k9) f3)) (pd_kq.kx (k22) f10)) (pd_kq.kx (k29) f23)) (pd_kq.kx (k344) f30)) (pd_kq.kx (k351) f345)) (pd_kq.kx (k358) f352)) (pd_kq.kx (k390) f359)) (pd_kq.kx (k397) f391)) f398 (fun j hj => Or.inr ⟨fun z => by first | (simp at z; done) | (simp at z; omega), rfl⟩)), fun t9 ht9 => by rw [hp] at ht9; cases ht9⟩ (by decide) (by decide) d_p15m16_257
                          · -- not taken: 252
                            refine lv_iconst (v := nI 1) hx hb d_p15m16_252 (by decide) ?_
                            refine lv_goto (tgt := 257) hx hb d_p15m16_253 (by decide) ?_
                            have hpt : gm_pt cs ((gm_name cs (sA i0) (eA i0)) + 2) (eA i0) = some (2, (gm_name cs (sA i0) (eA i0)) + 2 + 1) := by unfold gm_pt; rw [if_neg (by omega), if_neg (by omega), if_neg (by omega), if_pos (by rw [← e407]; omega)]
                            have hp : gm_pat cs (sA i0) (eA i0) = some (1, gm_name cs (sA i0) (eA i0), 2, (gm_name cs (sA i0) (eA i0)) + 2 + 1) := by unfold gm_pat; rw [hph]; simp only [hpt]
                            refine W.eq (g2 := F0 m 257 ls [.int (pd_b true)]) rfl ?_
                            exact pd_zret (v := true) X w ⟨by rw [hp]; rfl, pd_kx.tr (pd_kx.tr (pd_kx.tr (pd_kx.tr (pd_kx.tr (pd_kx.tr (pd_kx.tr (pd_kx.tr (pd_kq.kx (k2) hy0) (pd_kq.kx (k9) f3)) (pd_kq.kx (k22) f10)) (pd_kq.kx (k29) f23)) (pd_kq.kx (k344) f30)) (pd_kq.kx (k351) f345)) (pd_kq.kx (k358) f352)) (pd_kq.kx (k390) f359)) (pd_kq.kx (k397) f391), (nI 1), (nI (gm_name cs (sA i0) (eA i0))), (nI 2), (nI (((gm_name cs (sA i0) (eA i0)) + 2) + 1)), (pd_MO.of (fv2 := fv) (iv2 := pd_fu (pd_fu (pd_fu (pd_fu iv 37 (nI 1)) 38 (nI (gm_name cs (sA i0) (eA i0)))) 39 (nI 2)) 40 (nI (((gm_name cs (sA i0) (eA i0)) + 2) + 1))) (tl2 := tl) (ts := [20]) hMO (pd_kx.tr (pd_kx.tr (pd_kx.tr (pd_kx.tr (pd_kx.tr (pd_kx.tr (pd_kx.tr (pd_kx.tr (pd_kq.kx (k2) hy0) (pd_kq.kx (k9) f3)) (pd_kq.kx (k22) f10)) (pd_kq.kx (k29) f23)) (pd_kq.kx (k344) f30)) (pd_kq.kx (k351) f345)) (pd_kq.kx (k358) f352)) (pd_kq.kx (k390) f359)) (pd_kq.kx (k397) f391)) f398 (fun j hj => Or.inr ⟨fun z => by first | (simp at z; done) | (simp at z; omega), rfl⟩)), fun t9 ht9 => by rw [hp] at ht9; cases ht9; exact ⟨rfl, rfl, rfl, rfl⟩⟩ (by decide) (by decide) d_p15m16_257
                        · -- not taken: 217
                          refine lv_iconst (v := nI 1) hx hb d_p15m16_217 (by decide) ?_
                          refine lv_goto (tgt := 222) hx hb d_p15m16_218 (by decide) ?_
                          refine pd_put (ty := .int) X w f359 hz_y rfl 39 (by decide) mT_1178 rfl rfl (by decide +kernel) rfl rfl (Nat.le_of_ble_eq_true rfl) d_p15m16_222 (fun H locs w => ?_)
                          have w : pd_w G s H locs (pd_up h357 y (20, .inr (10, [.ref (ad 0), .ref (ad 1), .ref (ad 2), .int (iv 3), .int (iv 4), .int (iv 5), .ref (ad 6), .ref (ad 7), .ref (ad 8), .ref (ad 9), .ref (ad 10), .ref (ad 11), .int (iv 12), .ref (ad 13), .ref (ad 14), .ref (ad 15), .ref (ad 16), .ref (ad 17), .ref (ad 18), .ref (ad 19), .int (iv 20), .ref (ad 21), .ref (ad 22), .ref (ad 23), .ref (ad 24), .ref (ad 25), .ref (ad 26), .ref (ad 27), .ref (ad 28), .int (iv 29), .ref (ad 30), .ref (ad 31), .int (iv 32), .int (iv 33), .int (iv 34), .int (iv 35), .long tl, .int (nI 1), .int (nI (gm_name cs (sA i0) (eA i0))), .int (nI 1), .int (nI (eA i0)), .ref (ad 41), .ref (ad 42), .int (iv 43)]))) := w
                          obtain ⟨h409, u412⟩ : ∃ z, z = pd_up h357 y (20, .inr (10, [.ref (ad 0), .ref (ad 1), .ref (ad 2), .int (iv 3), .int (iv 4), .int (iv 5), .ref (ad 6), .ref (ad 7), .ref (ad 8), .ref (ad 9), .ref (ad 10), .ref (ad 11), .int (iv 12), .ref (ad 13), .ref (ad 14), .ref (ad 15), .ref (ad 16), .ref (ad 17), .ref (ad 18), .ref (ad 19), .int (iv 20), .ref (ad 21), .ref (ad 22), .ref (ad 23), .ref (ad 24), .ref (ad 25), .ref (ad 26), .ref (ad 27), .ref (ad 28), .int (iv 29), .ref (ad 30), .ref (ad 31), .int (iv 32), .int (iv 33), .int (iv 34), .int (iv 35), .long tl, .int (nI 1), .int (nI (gm_name cs (sA i0) (eA i0))), .int (nI 1), .int (nI (eA i0)), .ref (ad 41), .ref (ad 42), .int (iv 43)])) := ⟨_, rfl⟩
                          rw [← u412] at w
                          have k410 : pd_kq y h357 h409 := by rw [u412]; exact pd_up_kq
                          have f411 : h409 y = some (20, .inr (10, [.ref (ad 0), .ref (ad 1), .ref (ad 2), .int (iv 3), .int (iv 4), .int (iv 5), .ref (ad 6), .ref (ad 7), .ref (ad 8), .ref (ad 9), .ref (ad 10), .ref (ad 11), .int (iv 12), .ref (ad 13), .ref (ad 14), .ref (ad 15), .ref (ad 16), .ref (ad 17), .ref (ad 18), .ref (ad 19), .int (iv 20), .ref (ad 21), .ref (ad 22), .ref (ad 23), .ref (ad 24), .ref (ad 25), .ref (ad 26), .ref (ad 27), .ref (ad 28), .int (iv 29), .ref (ad 30), .ref (ad 31), .int (iv 32), .int (iv 33), .int (iv 34), .int (iv 35), .long tl, .int (nI 1), .int (nI (gm_name cs (sA i0) (eA i0))), .int (nI 1), .int (nI (eA i0)), .ref (ad 41), .ref (ad 42), .int (iv 43)])) := by rw [u412]; exact pd_up_s _ _ _
                          have f413 := k410 _ _ (pd_ne f361 f359 (by simp)) f361
                          have f414 := k410 _ _ (pd_ne f362 f359 (by simp)) f362
                          have f415 := k410 _ _ (pd_ne f363 f359 (by simp)) f363
                          refine lv_aload_n hx hb d_p15m16_225 rfl (lv_at hl 2 rfl) ?_
                          refine lv_iload_n hx hb d_p15m16_226 rfl (lv_at hl 0 rfl) ?_
                          refine lv_iconst (v := nI 1) hx hb d_p15m16_227 (by decide) ?_
                          refine pd_iadd hx hb d_p15m16_228 ?_
                          refine pd_put (ty := .int) X w f411 hz_y rfl 40 (by decide) mT_1179 rfl rfl (by decide +kernel) rfl rfl (Nat.le_of_ble_eq_true rfl) d_p15m16_229 (fun H locs w => ?_)
                          have w : pd_w G s H locs (pd_up h409 y (20, .inr (10, [.ref (ad 0), .ref (ad 1), .ref (ad 2), .int (iv 3), .int (iv 4), .int (iv 5), .ref (ad 6), .ref (ad 7), .ref (ad 8), .ref (ad 9), .ref (ad 10), .ref (ad 11), .int (iv 12), .ref (ad 13), .ref (ad 14), .ref (ad 15), .ref (ad 16), .ref (ad 17), .ref (ad 18), .ref (ad 19), .int (iv 20), .ref (ad 21), .ref (ad 22), .ref (ad 23), .ref (ad 24), .ref (ad 25), .ref (ad 26), .ref (ad 27), .ref (ad 28), .int (iv 29), .ref (ad 30), .ref (ad 31), .int (iv 32), .int (iv 33), .int (iv 34), .int (iv 35), .long tl, .int (nI 1), .int (nI (gm_name cs (sA i0) (eA i0))), .int (nI 1), .int (nI (((gm_name cs (sA i0) (eA i0)) + 2) + 1)), .ref (ad 41), .ref (ad 42), .int (iv 43)]))) := w
                          obtain ⟨h416, u419⟩ : ∃ z, z = pd_up h409 y (20, .inr (10, [.ref (ad 0), .ref (ad 1), .ref (ad 2), .int (iv 3), .int (iv 4), .int (iv 5), .ref (ad 6), .ref (ad 7), .ref (ad 8), .ref (ad 9), .ref (ad 10), .ref (ad 11), .int (iv 12), .ref (ad 13), .ref (ad 14), .ref (ad 15), .ref (ad 16), .ref (ad 17), .ref (ad 18), .ref (ad 19), .int (iv 20), .ref (ad 21), .ref (ad 22), .ref (ad 23), .ref (ad 24), .ref (ad 25), .ref (ad 26), .ref (ad 27), .ref (ad 28), .int (iv 29), .ref (ad 30), .ref (ad 31), .int (iv 32), .int (iv 33), .int (iv 34), .int (iv 35), .long tl, .int (nI 1), .int (nI (gm_name cs (sA i0) (eA i0))), .int (nI 1), .int (nI (((gm_name cs (sA i0) (eA i0)) + 2) + 1)), .ref (ad 41), .ref (ad 42), .int (iv 43)])) := ⟨_, rfl⟩
                          rw [← u419] at w
                          have k417 : pd_kq y h409 h416 := by rw [u419]; exact pd_up_kq
                          have f418 : h416 y = some (20, .inr (10, [.ref (ad 0), .ref (ad 1), .ref (ad 2), .int (iv 3), .int (iv 4), .int (iv 5), .ref (ad 6), .ref (ad 7), .ref (ad 8), .ref (ad 9), .ref (ad 10), .ref (ad 11), .int (iv 12), .ref (ad 13), .ref (ad 14), .ref (ad 15), .ref (ad 16), .ref (ad 17), .ref (ad 18), .ref (ad 19), .int (iv 20), .ref (ad 21), .ref (ad 22), .ref (ad 23), .ref (ad 24), .ref (ad 25), .ref (ad 26), .ref (ad 27), .ref (ad 28), .int (iv 29), .ref (ad 30), .ref (ad 31), .int (iv 32), .int (iv 33), .int (iv 34), .int (iv 35), .long tl, .int (nI 1), .int (nI (gm_name cs (sA i0) (eA i0))), .int (nI 1), .int (nI (((gm_name cs (sA i0) (eA i0)) + 2) + 1)), .ref (ad 41), .ref (ad 42), .int (iv 43)])) := by rw [u419]; exact pd_up_s _ _ _
                          have f420 := k417 _ _ (pd_ne f413 f411 (by simp)) f413
                          have f421 := k417 _ _ (pd_ne f414 f411 (by simp)) f414
                          have f422 := k417 _ _ (pd_ne f415 f411 (by simp)) f415
                          refine lv_aload_n hx hb d_p15m16_232 rfl (lv_at hl 2 rfl) ?_
                          refine pd_get X w f418 rfl 39 (by decide) mT_1178 rfl rfl d_p15m16_233 ?_
                          refine lv_iconst (v := nI 1) hx hb d_p15m16_236 (by decide) ?_
                          refine pd_jeq (tgt := 252) hx hb d_p15m16_237 (by decide) (by decide) (by decide) (fun _ => ?_) (fun q => absurd q (by decide))
                          refine lv_iconst (v := nI 1) hx hb d_p15m16_252 (by decide) ?_
                          refine lv_goto (tgt := 257) hx hb d_p15m16_253 (by decide) ?_
                          have hpt : gm_pt cs ((gm_name cs (sA i0) (eA i0)) + 2) (eA i0) = some (1, (gm_name cs (sA i0) (eA i0)) + 2 + 1) := by unfold gm_pt; rw [if_neg (by omega), if_neg (by omega), if_pos (by omega)]
                          have hp : gm_pat cs (sA i0) (eA i0) = some (1, gm_name cs (sA i0) (eA i0), 1, (gm_name cs (sA i0) (eA i0)) + 2 + 1) := by unfold gm_pat; rw [hph]; simp only [hpt]
                          refine W.eq (g2 := F0 m 257 ls [.int (pd_b true)]) rfl ?_
                          exact pd_zret (v := true) X w ⟨by rw [hp]; rfl, pd_kx.tr (pd_kx.tr (pd_kx.tr (pd_kx.tr (pd_kx.tr (pd_kx.tr (pd_kx.tr (pd_kx.tr (pd_kq.kx (k2) hy0) (pd_kq.kx (k9) f3)) (pd_kq.kx (k22) f10)) (pd_kq.kx (k29) f23)) (pd_kq.kx (k344) f30)) (pd_kq.kx (k351) f345)) (pd_kq.kx (k358) f352)) (pd_kq.kx (k410) f359)) (pd_kq.kx (k417) f411), (nI 1), (nI (gm_name cs (sA i0) (eA i0))), (nI 1), (nI (((gm_name cs (sA i0) (eA i0)) + 2) + 1)), (pd_MO.of (fv2 := fv) (iv2 := pd_fu (pd_fu (pd_fu (pd_fu iv 37 (nI 1)) 38 (nI (gm_name cs (sA i0) (eA i0)))) 39 (nI 1)) 40 (nI (((gm_name cs (sA i0) (eA i0)) + 2) + 1))) (tl2 := tl) (ts := [20]) hMO (pd_kx.tr (pd_kx.tr (pd_kx.tr (pd_kx.tr (pd_kx.tr (pd_kx.tr (pd_kx.tr (pd_kx.tr (pd_kq.kx (k2) hy0) (pd_kq.kx (k9) f3)) (pd_kq.kx (k22) f10)) (pd_kq.kx (k29) f23)) (pd_kq.kx (k344) f30)) (pd_kq.kx (k351) f345)) (pd_kq.kx (k358) f352)) (pd_kq.kx (k410) f359)) (pd_kq.kx (k417) f411)) f418 (fun j hj => Or.inr ⟨fun z => by first | (simp at z; done) | (simp at z; omega), rfl⟩)), fun t9 ht9 => by rw [hp] at ht9; cases ht9; exact ⟨rfl, rfl, rfl, rfl⟩⟩ (by decide) (by decide) d_p15m16_257
                    · -- not taken: 194
                      refine lv_iconst (v := nI 0) hx hb d_p15m16_194 (by decide) ?_
                      have hpt : gm_pt cs ((gm_name cs (sA i0) (eA i0)) + 2) (eA i0) = none := by unfold gm_pt; rw [if_neg (by omega), if_pos (by omega)]
                      have hp : gm_pat cs (sA i0) (eA i0) = none := by unfold gm_pat; rw [hph]; simp only [hpt]
                      refine W.eq (g2 := F0 m 195 ls [.int (pd_b false)]) rfl ?_
                      exact pd_zret (v := false) X w ⟨by rw [hp]; rfl, pd_kx.tr (pd_kx.tr (pd_kx.tr (pd_kx.tr (pd_kx.tr (pd_kx.tr (pd_kq.kx (k2) hy0) (pd_kq.kx (k9) f3)) (pd_kq.kx (k22) f10)) (pd_kq.kx (k29) f23)) (pd_kq.kx (k344) f30)) (pd_kq.kx (k351) f345)) (pd_kq.kx (k358) f352), (nI 1), (nI (gm_name cs (sA i0) (eA i0))), (nI 0), (nI (eA i0)), (pd_MO.of (fv2 := fv) (iv2 := pd_fu (pd_fu (pd_fu (pd_fu iv 37 (nI 1)) 38 (nI (gm_name cs (sA i0) (eA i0)))) 39 (nI 0)) 40 (nI (eA i0))) (tl2 := tl) (ts := [20]) hMO (pd_kx.tr (pd_kx.tr (pd_kx.tr (pd_kx.tr (pd_kx.tr (pd_kx.tr (pd_kq.kx (k2) hy0) (pd_kq.kx (k9) f3)) (pd_kq.kx (k22) f10)) (pd_kq.kx (k29) f23)) (pd_kq.kx (k344) f30)) (pd_kq.kx (k351) f345)) (pd_kq.kx (k358) f352)) f359 (fun j hj => Or.inr ⟨fun z => by first | (simp at z; done) | (simp at z; omega), rfl⟩)), fun t9 ht9 => by rw [hp] at ht9; cases ht9⟩ (by decide) (by decide) d_p15m16_195
                · -- not taken: 174
                  refine lv_iconst (v := nI 1) hx hb d_p15m16_174 (by decide) ?_
                  have hpt : gm_pt cs ((gm_name cs (sA i0) (eA i0)) + 2) (eA i0) = some (0, eA i0) := by unfold gm_pt; rw [if_pos (by omega)]
                  have hp : gm_pat cs (sA i0) (eA i0) = some (1, gm_name cs (sA i0) (eA i0), 0, eA i0) := by unfold gm_pat; rw [hph]; simp only [hpt]
                  refine W.eq (g2 := F0 m 175 ls [.int (pd_b true)]) rfl ?_
                  exact pd_zret (v := true) X w ⟨by rw [hp]; rfl, pd_kx.tr (pd_kx.tr (pd_kx.tr (pd_kx.tr (pd_kx.tr (pd_kx.tr (pd_kq.kx (k2) hy0) (pd_kq.kx (k9) f3)) (pd_kq.kx (k22) f10)) (pd_kq.kx (k29) f23)) (pd_kq.kx (k344) f30)) (pd_kq.kx (k351) f345)) (pd_kq.kx (k358) f352), (nI 1), (nI (gm_name cs (sA i0) (eA i0))), (nI 0), (nI (eA i0)), (pd_MO.of (fv2 := fv) (iv2 := pd_fu (pd_fu (pd_fu (pd_fu iv 37 (nI 1)) 38 (nI (gm_name cs (sA i0) (eA i0)))) 39 (nI 0)) 40 (nI (eA i0))) (tl2 := tl) (ts := [20]) hMO (pd_kx.tr (pd_kx.tr (pd_kx.tr (pd_kx.tr (pd_kx.tr (pd_kx.tr (pd_kq.kx (k2) hy0) (pd_kq.kx (k9) f3)) (pd_kq.kx (k22) f10)) (pd_kq.kx (k29) f23)) (pd_kq.kx (k344) f30)) (pd_kq.kx (k351) f345)) (pd_kq.kx (k358) f352)) f359 (fun j hj => Or.inr ⟨fun z => by first | (simp at z; done) | (simp at z; omega), rfl⟩)), fun t9 ht9 => by rw [hp] at ht9; cases ht9; exact ⟨rfl, rfl, rfl, rfl⟩⟩ (by decide) (by decide) d_p15m16_175
              · -- not taken: 142
                refine lv_iconst (v := nI 2) hx hb d_p15m16_142 (by decide) ?_
                refine lv_goto (tgt := 147) hx hb d_p15m16_143 (by decide) ?_
                refine pd_put (ty := .int) X w f30 hz_y rfl 37 (by decide) mT_1176 rfl rfl (by decide +kernel) rfl rfl (Nat.le_of_ble_eq_true rfl) d_p15m16_147 (fun H locs w => ?_)
                have w : pd_w G s H locs (pd_up h28 y (20, .inr (10, [.ref (ad 0), .ref (ad 1), .ref (ad 2), .int (iv 3), .int (iv 4), .int (iv 5), .ref (ad 6), .ref (ad 7), .ref (ad 8), .ref (ad 9), .ref (ad 10), .ref (ad 11), .int (iv 12), .ref (ad 13), .ref (ad 14), .ref (ad 15), .ref (ad 16), .ref (ad 17), .ref (ad 18), .ref (ad 19), .int (iv 20), .ref (ad 21), .ref (ad 22), .ref (ad 23), .ref (ad 24), .ref (ad 25), .ref (ad 26), .ref (ad 27), .ref (ad 28), .int (iv 29), .ref (ad 30), .ref (ad 31), .int (iv 32), .int (iv 33), .int (iv 34), .int (iv 35), .long tl, .int (nI 2), .int (nI (gm_name cs (sA i0) (eA i0))), .int (iv 39), .int (iv 40), .ref (ad 41), .ref (ad 42), .int (iv 43)]))) := w
                obtain ⟨h424, u427⟩ : ∃ z, z = pd_up h28 y (20, .inr (10, [.ref (ad 0), .ref (ad 1), .ref (ad 2), .int (iv 3), .int (iv 4), .int (iv 5), .ref (ad 6), .ref (ad 7), .ref (ad 8), .ref (ad 9), .ref (ad 10), .ref (ad 11), .int (iv 12), .ref (ad 13), .ref (ad 14), .ref (ad 15), .ref (ad 16), .ref (ad 17), .ref (ad 18), .ref (ad 19), .int (iv 20), .ref (ad 21), .ref (ad 22), .ref (ad 23), .ref (ad 24), .ref (ad 25), .ref (ad 26), .ref (ad 27), .ref (ad 28), .int (iv 29), .ref (ad 30), .ref (ad 31), .int (iv 32), .int (iv 33), .int (iv 34), .int (iv 35), .long tl, .int (nI 2), .int (nI (gm_name cs (sA i0) (eA i0))), .int (iv 39), .int (iv 40), .ref (ad 41), .ref (ad 42), .int (iv 43)])) := ⟨_, rfl⟩
                rw [← u427] at w
                have k425 : pd_kq y h28 h424 := by rw [u427]; exact pd_up_kq
                have f426 : h424 y = some (20, .inr (10, [.ref (ad 0), .ref (ad 1), .ref (ad 2), .int (iv 3), .int (iv 4), .int (iv 5), .ref (ad 6), .ref (ad 7), .ref (ad 8), .ref (ad 9), .ref (ad 10), .ref (ad 11), .int (iv 12), .ref (ad 13), .ref (ad 14), .ref (ad 15), .ref (ad 16), .ref (ad 17), .ref (ad 18), .ref (ad 19), .int (iv 20), .ref (ad 21), .ref (ad 22), .ref (ad 23), .ref (ad 24), .ref (ad 25), .ref (ad 26), .ref (ad 27), .ref (ad 28), .int (iv 29), .ref (ad 30), .ref (ad 31), .int (iv 32), .int (iv 33), .int (iv 34), .int (iv 35), .long tl, .int (nI 2), .int (nI (gm_name cs (sA i0) (eA i0))), .int (iv 39), .int (iv 40), .ref (ad 41), .ref (ad 42), .int (iv 43)])) := by rw [u427]; exact pd_up_s _ _ _
                have f428 := k425 _ _ (pd_ne f32 f30 (by simp)) f32
                have f429 := k425 _ _ (pd_ne f33 f30 (by simp)) f33
                have f430 := k425 _ _ (pd_ne f34 f30 (by simp)) f34
                refine lv_iload_n hx hb d_p15m16_150 rfl (lv_at hl 0 rfl) ?_
                refine lv_iconst (v := nI 1) hx hb d_p15m16_151 (by decide) ?_
                refine lv_aload_n hx hb d_p15m16_152 rfl (lv_at hl 2 rfl) ?_
                refine pd_get X w f426 rfl 37 (by decide) mT_1176 rfl rfl d_p15m16_153 ?_
                refine pd_iadd hx hb d_p15m16_156 ?_
                refine pd_iadd hx hb d_p15m16_157 ?_
                refine lv_istore_n (lv' := [(2, .int (nI ((gm_name cs (sA i0) (eA i0)) + 3))), (3, .int (nI (eA i0))), (0, .ref y), (1, .int (nI i0))]) hx hb d_p15m16_158 rfl hl (by decide) rfl (fun ls hl => ?_)
                have hph : gm_ph cs (sA i0) (eA i0) = some (2, gm_name cs (sA i0) (eA i0), (gm_name cs (sA i0) (eA i0)) + 3) := by unfold gm_ph; rw [if_neg (by omega), if_neg (by omega), if_pos (by omega), if_pos (by omega)]
                refine lv_aload_n hx hb d_p15m16_159 rfl (lv_at hl 2 rfl) ?_
                refine lv_iconst (v := nI 0) hx hb d_p15m16_160 (by decide) ?_
                refine pd_put (ty := .int) X w f426 hz_y rfl 39 (by decide) mT_1178 rfl rfl (by decide +kernel) rfl rfl (Nat.le_of_ble_eq_true rfl) d_p15m16_161 (fun H locs w => ?_)
                have w : pd_w G s H locs (pd_up h424 y (20, .inr (10, [.ref (ad 0), .ref (ad 1), .ref (ad 2), .int (iv 3), .int (iv 4), .int (iv 5), .ref (ad 6), .ref (ad 7), .ref (ad 8), .ref (ad 9), .ref (ad 10), .ref (ad 11), .int (iv 12), .ref (ad 13), .ref (ad 14), .ref (ad 15), .ref (ad 16), .ref (ad 17), .ref (ad 18), .ref (ad 19), .int (iv 20), .ref (ad 21), .ref (ad 22), .ref (ad 23), .ref (ad 24), .ref (ad 25), .ref (ad 26), .ref (ad 27), .ref (ad 28), .int (iv 29), .ref (ad 30), .ref (ad 31), .int (iv 32), .int (iv 33), .int (iv 34), .int (iv 35), .long tl, .int (nI 2), .int (nI (gm_name cs (sA i0) (eA i0))), .int (nI 0), .int (iv 40), .ref (ad 41), .ref (ad 42), .int (iv 43)]))) := w
                obtain ⟨h431, u434⟩ : ∃ z, z = pd_up h424 y (20, .inr (10, [.ref (ad 0), .ref (ad 1), .ref (ad 2), .int (iv 3), .int (iv 4), .int (iv 5), .ref (ad 6), .ref (ad 7), .ref (ad 8), .ref (ad 9), .ref (ad 10), .ref (ad 11), .int (iv 12), .ref (ad 13), .ref (ad 14), .ref (ad 15), .ref (ad 16), .ref (ad 17), .ref (ad 18), .ref (ad 19), .int (iv 20), .ref (ad 21), .ref (ad 22), .ref (ad 23), .ref (ad 24), .ref (ad 25), .ref (ad 26), .ref (ad 27), .ref (ad 28), .int (iv 29), .ref (ad 30), .ref (ad 31), .int (iv 32), .int (iv 33), .int (iv 34), .int (iv 35), .long tl, .int (nI 2), .int (nI (gm_name cs (sA i0) (eA i0))), .int (nI 0), .int (iv 40), .ref (ad 41), .ref (ad 42), .int (iv 43)])) := ⟨_, rfl⟩
                rw [← u434] at w
                have k432 : pd_kq y h424 h431 := by rw [u434]; exact pd_up_kq
                have f433 : h431 y = some (20, .inr (10, [.ref (ad 0), .ref (ad 1), .ref (ad 2), .int (iv 3), .int (iv 4), .int (iv 5), .ref (ad 6), .ref (ad 7), .ref (ad 8), .ref (ad 9), .ref (ad 10), .ref (ad 11), .int (iv 12), .ref (ad 13), .ref (ad 14), .ref (ad 15), .ref (ad 16), .ref (ad 17), .ref (ad 18), .ref (ad 19), .int (iv 20), .ref (ad 21), .ref (ad 22), .ref (ad 23), .ref (ad 24), .ref (ad 25), .ref (ad 26), .ref (ad 27), .ref (ad 28), .int (iv 29), .ref (ad 30), .ref (ad 31), .int (iv 32), .int (iv 33), .int (iv 34), .int (iv 35), .long tl, .int (nI 2), .int (nI (gm_name cs (sA i0) (eA i0))), .int (nI 0), .int (iv 40), .ref (ad 41), .ref (ad 42), .int (iv 43)])) := by rw [u434]; exact pd_up_s _ _ _
                have f435 := k432 _ _ (pd_ne f428 f426 (by simp)) f428
                have f436 := k432 _ _ (pd_ne f429 f426 (by simp)) f429
                have f437 := k432 _ _ (pd_ne f430 f426 (by simp)) f430
                refine lv_aload_n hx hb d_p15m16_164 rfl (lv_at hl 2 rfl) ?_
                refine lv_iload_n hx hb d_p15m16_165 rfl (lv_at hl 1 rfl) ?_
                refine pd_put (ty := .int) X w f433 hz_y rfl 40 (by decide) mT_1179 rfl rfl (by decide +kernel) rfl rfl (Nat.le_of_ble_eq_true rfl) d_p15m16_166 (fun H locs w => ?_)
                have w : pd_w G s H locs (pd_up h431 y (20, .inr (10, [.ref (ad 0), .ref (ad 1), .ref (ad 2), .int (iv 3), .int (iv 4), .int (iv 5), .ref (ad 6), .ref (ad 7), .ref (ad 8), .ref (ad 9), .ref (ad 10), .ref (ad 11), .int (iv 12), .ref (ad 13), .ref (ad 14), .ref (ad 15), .ref (ad 16), .ref (ad 17), .ref (ad 18), .ref (ad 19), .int (iv 20), .ref (ad 21), .ref (ad 22), .ref (ad 23), .ref (ad 24), .ref (ad 25), .ref (ad 26), .ref (ad 27), .ref (ad 28), .int (iv 29), .ref (ad 30), .ref (ad 31), .int (iv 32), .int (iv 33), .int (iv 34), .int (iv 35), .long tl, .int (nI 2), .int (nI (gm_name cs (sA i0) (eA i0))), .int (nI 0), .int (nI (eA i0)), .ref (ad 41), .ref (ad 42), .int (iv 43)]))) := w
                obtain ⟨h438, u441⟩ : ∃ z, z = pd_up h431 y (20, .inr (10, [.ref (ad 0), .ref (ad 1), .ref (ad 2), .int (iv 3), .int (iv 4), .int (iv 5), .ref (ad 6), .ref (ad 7), .ref (ad 8), .ref (ad 9), .ref (ad 10), .ref (ad 11), .int (iv 12), .ref (ad 13), .ref (ad 14), .ref (ad 15), .ref (ad 16), .ref (ad 17), .ref (ad 18), .ref (ad 19), .int (iv 20), .ref (ad 21), .ref (ad 22), .ref (ad 23), .ref (ad 24), .ref (ad 25), .ref (ad 26), .ref (ad 27), .ref (ad 28), .int (iv 29), .ref (ad 30), .ref (ad 31), .int (iv 32), .int (iv 33), .int (iv 34), .int (iv 35), .long tl, .int (nI 2), .int (nI (gm_name cs (sA i0) (eA i0))), .int (nI 0), .int (nI (eA i0)), .ref (ad 41), .ref (ad 42), .int (iv 43)])) := ⟨_, rfl⟩
                rw [← u441] at w
                have k439 : pd_kq y h431 h438 := by rw [u441]; exact pd_up_kq
                have f440 : h438 y = some (20, .inr (10, [.ref (ad 0), .ref (ad 1), .ref (ad 2), .int (iv 3), .int (iv 4), .int (iv 5), .ref (ad 6), .ref (ad 7), .ref (ad 8), .ref (ad 9), .ref (ad 10), .ref (ad 11), .int (iv 12), .ref (ad 13), .ref (ad 14), .ref (ad 15), .ref (ad 16), .ref (ad 17), .ref (ad 18), .ref (ad 19), .int (iv 20), .ref (ad 21), .ref (ad 22), .ref (ad 23), .ref (ad 24), .ref (ad 25), .ref (ad 26), .ref (ad 27), .ref (ad 28), .int (iv 29), .ref (ad 30), .ref (ad 31), .int (iv 32), .int (iv 33), .int (iv 34), .int (iv 35), .long tl, .int (nI 2), .int (nI (gm_name cs (sA i0) (eA i0))), .int (nI 0), .int (nI (eA i0)), .ref (ad 41), .ref (ad 42), .int (iv 43)])) := by rw [u441]; exact pd_up_s _ _ _
                have f442 := k439 _ _ (pd_ne f435 f433 (by simp)) f435
                have f443 := k439 _ _ (pd_ne f436 f433 (by simp)) f436
                have f444 := k439 _ _ (pd_ne f437 f433 (by simp)) f437
                refine lv_iload_n hx hb d_p15m16_169 rfl (lv_at hl 0 rfl) ?_
                refine lv_iload_n hx hb d_p15m16_170 rfl (lv_at hl 1 rfl) ?_
                refine pd_jne (tgt := 176) hx hb d_p15m16_171 (by decide) (by omega) (by omega) (fun q445 => ?_) (fun q445 => ?_)
                · -- taken: 176
                  refine lv_aload_n hx hb d_p15m16_176 rfl (lv_at hl 2 rfl) ?_
                  refine pd_get X w f440 rfl 0 (by decide) mT_1139 rfl rfl d_p15m16_177 ?_
                  refine lv_iload_n hx hb d_p15m16_180 rfl (lv_at hl 0 rfl) ?_
                  refine pd_iald X w f442 (by omega) (by omega) d_p15m16_181 ?_
                  refine pd_top (v' := .int (nI (cs.getD ((gm_name cs (sA i0) (eA i0)) + 3) 0))) (congrArg Value.int (hln _ (by omega))) ?_
                  have := tx_lt hlc ((gm_name cs (sA i0) (eA i0)) + 3)
                  refine lv_bipush (v := nI 46) hx hb d_p15m16_182 (by decide) ?_
                  refine pd_jne (tgt := 194) hx hb d_p15m16_184 (by decide) (by omega) (by omega) (fun q446 => ?_) (fun q446 => ?_)
                  · -- taken: 194
                    refine lv_iconst (v := nI 0) hx hb d_p15m16_194 (by decide) ?_
                    have hpt : gm_pt cs ((gm_name cs (sA i0) (eA i0)) + 3) (eA i0) = none := by unfold gm_pt; rw [if_neg (by omega), if_pos (by omega)]
                    have hp : gm_pat cs (sA i0) (eA i0) = none := by unfold gm_pat; rw [hph]; simp only [hpt]
                    refine W.eq (g2 := F0 m 195 ls [.int (pd_b false)]) rfl ?_
                    exact pd_zret (v := false) X w ⟨by rw [hp]; rfl, pd_kx.tr (pd_kx.tr (pd_kx.tr (pd_kx.tr (pd_kx.tr (pd_kx.tr (pd_kq.kx (k2) hy0) (pd_kq.kx (k9) f3)) (pd_kq.kx (k22) f10)) (pd_kq.kx (k29) f23)) (pd_kq.kx (k425) f30)) (pd_kq.kx (k432) f426)) (pd_kq.kx (k439) f433), (nI 2), (nI (gm_name cs (sA i0) (eA i0))), (nI 0), (nI (eA i0)), (pd_MO.of (fv2 := fv) (iv2 := pd_fu (pd_fu (pd_fu (pd_fu iv 37 (nI 2)) 38 (nI (gm_name cs (sA i0) (eA i0)))) 39 (nI 0)) 40 (nI (eA i0))) (tl2 := tl) (ts := [20]) hMO (pd_kx.tr (pd_kx.tr (pd_kx.tr (pd_kx.tr (pd_kx.tr (pd_kx.tr (pd_kq.kx (k2) hy0) (pd_kq.kx (k9) f3)) (pd_kq.kx (k22) f10)) (pd_kq.kx (k29) f23)) (pd_kq.kx (k425) f30)) (pd_kq.kx (k432) f426)) (pd_kq.kx (k439) f433)) f440 (fun j hj => Or.inr ⟨fun z => by first | (simp at z; done) | (simp at z; omega), rfl⟩)), fun t9 ht9 => by rw [hp] at ht9; cases ht9⟩ (by decide) (by decide) d_p15m16_195
                  · -- not taken: 187
                    refine lv_iload_n hx hb d_p15m16_187 rfl (lv_at hl 0 rfl) ?_
                    refine lv_iconst (v := nI 1) hx hb d_p15m16_188 (by decide) ?_
                    refine pd_iadd hx hb d_p15m16_189 ?_
                    refine lv_iload_n hx hb d_p15m16_190 rfl (lv_at hl 1 rfl) ?_
                    refine pd_jne (tgt := 196) hx hb d_p15m16_191 (by decide) (by omega) (by omega) (fun q447 => ?_) (fun q447 => ?_)
                    · -- taken: 196
                      refine lv_aload_n hx hb d_p15m16_196 rfl (lv_at hl 2 rfl) ?_
                      refine lv_aload_n hx hb d_p15m16_197 rfl (lv_at hl 2 rfl) ?_
                      refine pd_get X w f440 rfl 0 (by decide) mT_1139 rfl rfl d_p15m16_198 ?_
                      refine lv_iload_n hx hb d_p15m16_201 rfl (lv_at hl 0 rfl) ?_
                      refine lv_iconst (v := nI 1) hx hb d_p15m16_202 (by decide) ?_
                      refine pd_iadd hx hb d_p15m16_203 ?_
                      refine pd_iald X w f442 (by omega) (by omega) d_p15m16_204 ?_
                      refine pd_top (v' := .int (nI (cs.getD (((gm_name cs (sA i0) (eA i0)) + 3) + 1) 0))) (congrArg Value.int (hln _ (by omega))) ?_
                      have := tx_lt hlc (((gm_name cs (sA i0) (eA i0)) + 3) + 1)
                      refine lv_bipush (v := nI 42) hx hb d_p15m16_205 (by decide) ?_
                      refine pd_jne (tgt := 221) hx hb d_p15m16_207 (by decide) (by omega) (by omega) (fun q448 => ?_) (fun q448 => ?_)
                      · -- taken: 221
                        refine lv_iconst (v := nI 2) hx hb d_p15m16_221 (by decide) ?_
                        refine pd_put (ty := .int) X w f440 hz_y rfl 39 (by decide) mT_1178 rfl rfl (by decide +kernel) rfl rfl (Nat.le_of_ble_eq_true rfl) d_p15m16_222 (fun H locs w => ?_)
                        have w : pd_w G s H locs (pd_up h438 y (20, .inr (10, [.ref (ad 0), .ref (ad 1), .ref (ad 2), .int (iv 3), .int (iv 4), .int (iv 5), .ref (ad 6), .ref (ad 7), .ref (ad 8), .ref (ad 9), .ref (ad 10), .ref (ad 11), .int (iv 12), .ref (ad 13), .ref (ad 14), .ref (ad 15), .ref (ad 16), .ref (ad 17), .ref (ad 18), .ref (ad 19), .int (iv 20), .ref (ad 21), .ref (ad 22), .ref (ad 23), .ref (ad 24), .ref (ad 25), .ref (ad 26), .ref (ad 27), .ref (ad 28), .int (iv 29), .ref (ad 30), .ref (ad 31), .int (iv 32), .int (iv 33), .int (iv 34), .int (iv 35), .long tl, .int (nI 2), .int (nI (gm_name cs (sA i0) (eA i0))), .int (nI 2), .int (nI (eA i0)), .ref (ad 41), .ref (ad 42), .int (iv 43)]))) := w
                        obtain ⟨h449, u452⟩ : ∃ z, z = pd_up h438 y (20, .inr (10, [.ref (ad 0), .ref (ad 1), .ref (ad 2), .int (iv 3), .int (iv 4), .int (iv 5), .ref (ad 6), .ref (ad 7), .ref (ad 8), .ref (ad 9), .ref (ad 10), .ref (ad 11), .int (iv 12), .ref (ad 13), .ref (ad 14), .ref (ad 15), .ref (ad 16), .ref (ad 17), .ref (ad 18), .ref (ad 19), .int (iv 20), .ref (ad 21), .ref (ad 22), .ref (ad 23), .ref (ad 24), .ref (ad 25), .ref (ad 26), .ref (ad 27), .ref (ad 28), .int (iv 29), .ref (ad 30), .ref (ad 31), .int (iv 32), .int (iv 33), .int (iv 34), .int (iv 35), .long tl, .int (nI 2), .int (nI (gm_name cs (sA i0) (eA i0))), .int (nI 2), .int (nI (eA i0)), .ref (ad 41), .ref (ad 42), .int (iv 43)])) := ⟨_, rfl⟩
                        rw [← u452] at w
                        have k450 : pd_kq y h438 h449 := by rw [u452]; exact pd_up_kq
                        have f451 : h449 y = some (20, .inr (10, [.ref (ad 0), .ref (ad 1), .ref (ad 2), .int (iv 3), .int (iv 4), .int (iv 5), .ref (ad 6), .ref (ad 7), .ref (ad 8), .ref (ad 9), .ref (ad 10), .ref (ad 11), .int (iv 12), .ref (ad 13), .ref (ad 14), .ref (ad 15), .ref (ad 16), .ref (ad 17), .ref (ad 18), .ref (ad 19), .int (iv 20), .ref (ad 21), .ref (ad 22), .ref (ad 23), .ref (ad 24), .ref (ad 25), .ref (ad 26), .ref (ad 27), .ref (ad 28), .int (iv 29), .ref (ad 30), .ref (ad 31), .int (iv 32), .int (iv 33), .int (iv 34), .int (iv 35), .long tl, .int (nI 2), .int (nI (gm_name cs (sA i0) (eA i0))), .int (nI 2), .int (nI (eA i0)), .ref (ad 41), .ref (ad 42), .int (iv 43)])) := by rw [u452]; exact pd_up_s _ _ _
                        have f453 := k450 _ _ (pd_ne f442 f440 (by simp)) f442
                        have f454 := k450 _ _ (pd_ne f443 f440 (by simp)) f443
                        have f455 := k450 _ _ (pd_ne f444 f440 (by simp)) f444
                        refine lv_aload_n hx hb d_p15m16_225 rfl (lv_at hl 2 rfl) ?_
                        refine lv_iload_n hx hb d_p15m16_226 rfl (lv_at hl 0 rfl) ?_
                        refine lv_iconst (v := nI 1) hx hb d_p15m16_227 (by decide) ?_
                        refine pd_iadd hx hb d_p15m16_228 ?_
                        refine pd_put (ty := .int) X w f451 hz_y rfl 40 (by decide) mT_1179 rfl rfl (by decide +kernel) rfl rfl (Nat.le_of_ble_eq_true rfl) d_p15m16_229 (fun H locs w => ?_)
                        have w : pd_w G s H locs (pd_up h449 y (20, .inr (10, [.ref (ad 0), .ref (ad 1), .ref (ad 2), .int (iv 3), .int (iv 4), .int (iv 5), .ref (ad 6), .ref (ad 7), .ref (ad 8), .ref (ad 9), .ref (ad 10), .ref (ad 11), .int (iv 12), .ref (ad 13), .ref (ad 14), .ref (ad 15), .ref (ad 16), .ref (ad 17), .ref (ad 18), .ref (ad 19), .int (iv 20), .ref (ad 21), .ref (ad 22), .ref (ad 23), .ref (ad 24), .ref (ad 25), .ref (ad 26), .ref (ad 27), .ref (ad 28), .int (iv 29), .ref (ad 30), .ref (ad 31), .int (iv 32), .int (iv 33), .int (iv 34), .int (iv 35), .long tl, .int (nI 2), .int (nI (gm_name cs (sA i0) (eA i0))), .int (nI 2), .int (nI (((gm_name cs (sA i0) (eA i0)) + 3) + 1)), .ref (ad 41), .ref (ad 42), .int (iv 43)]))) := w
                        obtain ⟨h456, u459⟩ : ∃ z, z = pd_up h449 y (20, .inr (10, [.ref (ad 0), .ref (ad 1), .ref (ad 2), .int (iv 3), .int (iv 4), .int (iv 5), .ref (ad 6), .ref (ad 7), .ref (ad 8), .ref (ad 9), .ref (ad 10), .ref (ad 11), .int (iv 12), .ref (ad 13), .ref (ad 14), .ref (ad 15), .ref (ad 16), .ref (ad 17), .ref (ad 18), .ref (ad 19), .int (iv 20), .ref (ad 21), .ref (ad 22), .ref (ad 23), .ref (ad 24), .ref (ad 25), .ref (ad 26), .ref (ad 27), .ref (ad 28), .int (iv 29), .ref (ad 30), .ref (ad 31), .int (iv 32), .int (iv 33), .int (iv 34), .int (iv 35), .long tl, .int (nI 2), .int (nI (gm_name cs (sA i0) (eA i0))), .int (nI 2), .int (nI (((gm_name cs (sA i0) (eA i0)) + 3) + 1)), .ref (ad 41), .ref (ad 42), .int (iv 43)])) := ⟨_, rfl⟩
                        rw [← u459] at w
                        have k457 : pd_kq y h449 h456 := by rw [u459]; exact pd_up_kq
                        have f458 : h456 y = some (20, .inr (10, [.ref (ad 0), .ref (ad 1), .ref (ad 2), .int (iv 3), .int (iv 4), .int (iv 5), .ref (ad 6), .ref (ad 7), .ref (ad 8), .ref (ad 9), .ref (ad 10), .ref (ad 11), .int (iv 12), .ref (ad 13), .ref (ad 14), .ref (ad 15), .ref (ad 16), .ref (ad 17), .ref (ad 18), .ref (ad 19), .int (iv 20), .ref (ad 21), .ref (ad 22), .ref (ad 23), .ref (ad 24), .ref (ad 25), .ref (ad 26), .ref (ad 27), .ref (ad 28), .int (iv 29), .ref (ad 30), .ref (ad 31), .int (iv 32), .int (iv 33), .int (iv 34), .int (iv 35), .long tl, .int (nI 2), .int (nI (gm_name cs (sA i0) (eA i0))), .int (nI 2), .int (nI (((gm_name cs (sA i0) (eA i0)) + 3) + 1)), .ref (ad 41), .ref (ad 42), .int (iv 43)])) := by rw [u459]; exact pd_up_s _ _ _
                        have f460 := k457 _ _ (pd_ne f453 f451 (by simp)) f453
                        have f461 := k457 _ _ (pd_ne f454 f451 (by simp)) f454
                        have f462 := k457 _ _ (pd_ne f455 f451 (by simp)) f455
                        refine lv_aload_n hx hb d_p15m16_232 rfl (lv_at hl 2 rfl) ?_
                        refine pd_get X w f458 rfl 39 (by decide) mT_1178 rfl rfl d_p15m16_233 ?_
                        refine lv_iconst (v := nI 1) hx hb d_p15m16_236 (by decide) ?_
                        refine pd_jeq (tgt := 252) hx hb d_p15m16_237 (by decide) (by decide) (by decide) (fun q => absurd q (by decide)) (fun _ => ?_)
                        refine lv_aload_n hx hb d_p15m16_240 rfl (lv_at hl 2 rfl) ?_
                        refine lv_iload_n hx hb d_p15m16_241 rfl (lv_at hl 0 rfl) ?_
                        refine lv_iconst (v := nI 1) hx hb d_p15m16_242 (by decide) ?_
                        refine pd_iadd hx hb d_p15m16_243 ?_
                        refine lv_iload_n hx hb d_p15m16_244 rfl (lv_at hl 1 rfl) ?_
                        refine pd_cV (a := y) (As := [.int (nI (((gm_name cs (sA i0) (eA i0)) + 3) + 1)), .int (nI (eA i0))]) (rest := []) X w f458 rfl (c_PolicyDeskModel_behindPart l G h456 (ad := ad) (fv := fv) (iv := pd_fu (pd_fu (pd_fu (pd_fu iv 37 (nI 2)) 38 (nI (gm_name cs (sA i0) (eA i0)))) 39 (nI 2)) 40 (nI (((gm_name cs (sA i0) (eA i0)) + 3) + 1))) (tl := tl) (pd_MO.of (fv2 := fv) (iv2 := pd_fu (pd_fu (pd_fu (pd_fu iv 37 (nI 2)) 38 (nI (gm_name cs (sA i0) (eA i0)))) 39 (nI 2)) 40 (nI (((gm_name cs (sA i0) (eA i0)) + 3) + 1))) (tl2 := tl) (ts := [20]) hMO (pd_kx.tr (pd_kx.tr (pd_kx.tr (pd_kx.tr (pd_kx.tr (pd_kx.tr (pd_kx.tr (pd_kx.tr (pd_kq.kx (k2) hy0) (pd_kq.kx (k9) f3)) (pd_kq.kx (k22) f10)) (pd_kq.kx (k29) f23)) (pd_kq.kx (k425) f30)) (pd_kq.kx (k432) f426)) (pd_kq.kx (k439) f433)) (pd_kq.kx (k450) f440)) (pd_kq.kx (k457) f451)) f458 (fun j hj => Or.inr ⟨fun z => by first | (simp at z; done) | (simp at z; omega), rfl⟩)) hL (by omega) (by omega)) ok_PolicyDeskModel_behindPart ⟨mT_1315, sT_19⟩ mT_1313 ⟨by decide, by decide⟩ rfl hl.1 rfl (Nat.le_of_ble_eq_true rfl) d_p15m16_245 ⟨by decide, by decide⟩ (fun r464 h465 H locs hp466 w => ?_)
                        refine W.widen (k := 0) (n := 0) (by decide) (by decide) ?_
                        obtain ⟨e467, rfl⟩ := hp466
                        have hpl := gm_part_le (cs := cs) (x := (gm_name cs (sA i0) (eA i0)) + 3 + 1) (to := eA i0) (by omega)
                        refine lv_iload_n hx hb d_p15m16_248 rfl (lv_at hl 1 rfl) ?_
                        refine pd_jne (tgt := 256) hx hb d_p15m16_249 (by decide) (by omega) (by omega) (fun q468 => ?_) (fun q468 => ?_)
                        · -- taken: 256
                          refine lv_iconst (v := nI 0) hx hb d_p15m16_256 (by decide) ?_
                          have hpt : gm_pt cs ((gm_name cs (sA i0) (eA i0)) + 3) (eA i0) = none := by unfold gm_pt; rw [if_neg (by omega), if_neg (by omega), if_neg (by omega), if_neg (by rw [← e467]; omega)]
                          have hp : gm_pat cs (sA i0) (eA i0) = none := by unfold gm_pat; rw [hph]; simp only [hpt]
                          refine W.eq (g2 := F0 m 257 ls [.int (pd_b false)]) rfl ?_
                          exact pd_zret (v := false) X w ⟨by rw [hp]; rfl, pd_kx.tr (pd_kx.tr (pd_kx.tr (pd_kx.tr (pd_kx.tr (pd_kx.tr (pd_kx.tr (pd_kx.tr (pd_kq.kx (k2) hy0) (pd_kq.kx (k9) f3)) (pd_kq.kx (k22) f10)) (pd_kq.kx (k29) f23)) (pd_kq.kx (k425) f30)) (pd_kq.kx (k432) f426)) (pd_kq.kx (k439) f433)) (pd_kq.kx (k450) f440)) (pd_kq.kx (k457) f451), (nI 2), (nI (gm_name cs (sA i0) (eA i0))), (nI 2), (nI (((gm_name cs (sA i0) (eA i0)) + 3) + 1)), (pd_MO.of (fv2 := fv) (iv2 := pd_fu (pd_fu (pd_fu (pd_fu iv 37 (nI 2)) 38 (nI (gm_name cs (sA i0) (eA i0)))) 39 (nI 2)) 40 (nI (((gm_name cs (sA i0) (eA i0)) + 3) + 1))) (tl2 := tl) (ts := [20]) hMO (pd_kx.tr (pd_kx.tr (pd_kx.tr (pd_kx.tr (pd_kx.tr (pd_kx.tr (pd_kx.tr (pd_kx.tr (pd_kq.kx (k2) hy0) (pd_kq.kx (k9) f3)) (pd_kq.kx (k22) f10)) (pd_kq.kx (k29) f23)) (pd_kq.kx (k425) f30)) (pd_kq.kx (k432) f426)) (pd_kq.kx (k439) f433)) (pd_kq.kx (k450) f440)) (pd_kq.kx (k457) f451)) f458 (fun j hj => Or.inr ⟨fun z => by first | (simp at z; done) | (simp at z; omega), rfl⟩)), fun t9 ht9 => by rw [hp] at ht9; cases ht9⟩ (by decide) (by decide) d_p15m16_257
                        · -- not taken: 252
                          refine lv_iconst (v := nI 1) hx hb d_p15m16_252 (by decide) ?_
                          refine lv_goto (tgt := 257) hx hb d_p15m16_253 (by decide) ?_
                          have hpt : gm_pt cs ((gm_name cs (sA i0) (eA i0)) + 3) (eA i0) = some (2, (gm_name cs (sA i0) (eA i0)) + 3 + 1) := by unfold gm_pt; rw [if_neg (by omega), if_neg (by omega), if_neg (by omega), if_pos (by rw [← e467]; omega)]
                          have hp : gm_pat cs (sA i0) (eA i0) = some (2, gm_name cs (sA i0) (eA i0), 2, (gm_name cs (sA i0) (eA i0)) + 3 + 1) := by unfold gm_pat; rw [hph]; simp only [hpt]
                          refine W.eq (g2 := F0 m 257 ls [.int (pd_b true)]) rfl ?_
                          exact pd_zret (v := true) X w ⟨by rw [hp]; rfl, pd_kx.tr (pd_kx.tr (pd_kx.tr (pd_kx.tr (pd_kx.tr (pd_kx.tr (pd_kx.tr (pd_kx.tr (pd_kq.kx (k2) hy0) (pd_kq.kx (k9) f3)) (pd_kq.kx (k22) f10)) (pd_kq.kx (k29) f23)) (pd_kq.kx (k425) f30)) (pd_kq.kx (k432) f426)) (pd_kq.kx (k439) f433)) (pd_kq.kx (k450) f440)) (pd_kq.kx (k457) f451), (nI 2), (nI (gm_name cs (sA i0) (eA i0))), (nI 2), (nI (((gm_name cs (sA i0) (eA i0)) + 3) + 1)), (pd_MO.of (fv2 := fv) (iv2 := pd_fu (pd_fu (pd_fu (pd_fu iv 37 (nI 2)) 38 (nI (gm_name cs (sA i0) (eA i0)))) 39 (nI 2)) 40 (nI (((gm_name cs (sA i0) (eA i0)) + 3) + 1))) (tl2 := tl) (ts := [20]) hMO (pd_kx.tr (pd_kx.tr (pd_kx.tr (pd_kx.tr (pd_kx.tr (pd_kx.tr (pd_kx.tr (pd_kx.tr (pd_kq.kx (k2) hy0) (pd_kq.kx (k9) f3)) (pd_kq.kx (k22) f10)) (pd_kq.kx (k29) f23)) (pd_kq.kx (k425) f30)) (pd_kq.kx (k432) f426)) (pd_kq.kx (k439) f433)) (pd_kq.kx (k450) f440)) (pd_kq.kx (k457) f451)) f458 (fun j hj => Or.inr ⟨fun z => by first | (simp at z; done) | (simp at z; omega), rfl⟩)), fun t9 ht9 => by rw [hp] at ht9; cases ht9; exact ⟨rfl, rfl, rfl, rfl⟩⟩ (by decide) (by decide) d_p15m16_257
                      · -- not taken: 210
                        refine lv_iload_n hx hb d_p15m16_210 rfl (lv_at hl 0 rfl) ?_
                        refine lv_iconst (v := nI 2) hx hb d_p15m16_211 (by decide) ?_
                        refine pd_iadd hx hb d_p15m16_212 ?_
                        refine lv_iload_n hx hb d_p15m16_213 rfl (lv_at hl 1 rfl) ?_
                        refine pd_jne (tgt := 221) hx hb d_p15m16_214 (by decide) (by omega) (by omega) (fun q469 => ?_) (fun q469 => ?_)
                        · -- taken: 221
                          refine lv_iconst (v := nI 2) hx hb d_p15m16_221 (by decide) ?_
                          refine pd_put (ty := .int) X w f440 hz_y rfl 39 (by decide) mT_1178 rfl rfl (by decide +kernel) rfl rfl (Nat.le_of_ble_eq_true rfl) d_p15m16_222 (fun H locs w => ?_)
                          have w : pd_w G s H locs (pd_up h438 y (20, .inr (10, [.ref (ad 0), .ref (ad 1), .ref (ad 2), .int (iv 3), .int (iv 4), .int (iv 5), .ref (ad 6), .ref (ad 7), .ref (ad 8), .ref (ad 9), .ref (ad 10), .ref (ad 11), .int (iv 12), .ref (ad 13), .ref (ad 14), .ref (ad 15), .ref (ad 16), .ref (ad 17), .ref (ad 18), .ref (ad 19), .int (iv 20), .ref (ad 21), .ref (ad 22), .ref (ad 23), .ref (ad 24), .ref (ad 25), .ref (ad 26), .ref (ad 27), .ref (ad 28), .int (iv 29), .ref (ad 30), .ref (ad 31), .int (iv 32), .int (iv 33), .int (iv 34), .int (iv 35), .long tl, .int (nI 2), .int (nI (gm_name cs (sA i0) (eA i0))), .int (nI 2), .int (nI (eA i0)), .ref (ad 41), .ref (ad 42), .int (iv 43)]))) := w
                          obtain ⟨h470, u473⟩ : ∃ z, z = pd_up h438 y (20, .inr (10, [.ref (ad 0), .ref (ad 1), .ref (ad 2), .int (iv 3), .int (iv 4), .int (iv 5), .ref (ad 6), .ref (ad 7), .ref (ad 8), .ref (ad 9), .ref (ad 10), .ref (ad 11), .int (iv 12), .ref (ad 13), .ref (ad 14), .ref (ad 15), .ref (ad 16), .ref (ad 17), .ref (ad 18), .ref (ad 19), .int (iv 20), .ref (ad 21), .ref (ad 22), .ref (ad 23), .ref (ad 24), .ref (ad 25), .ref (ad 26), .ref (ad 27), .ref (ad 28), .int (iv 29), .ref (ad 30), .ref (ad 31), .int (iv 32), .int (iv 33), .int (iv 34), .int (iv 35), .long tl, .int (nI 2), .int (nI (gm_name cs (sA i0) (eA i0))), .int (nI 2), .int (nI (eA i0)), .ref (ad 41), .ref (ad 42), .int (iv 43)])) := ⟨_, rfl⟩
                          rw [← u473] at w
                          have k471 : pd_kq y h438 h470 := by rw [u473]; exact pd_up_kq
                          have f472 : h470 y = some (20, .inr (10, [.ref (ad 0), .ref (ad 1), .ref (ad 2), .int (iv 3), .int (iv 4), .int (iv 5), .ref (ad 6), .ref (ad 7), .ref (ad 8), .ref (ad 9), .ref (ad 10), .ref (ad 11), .int (iv 12), .ref (ad 13), .ref (ad 14), .ref (ad 15), .ref (ad 16), .ref (ad 17), .ref (ad 18), .ref (ad 19), .int (iv 20), .ref (ad 21), .ref (ad 22), .ref (ad 23), .ref (ad 24), .ref (ad 25), .ref (ad 26), .ref (ad 27), .ref (ad 28), .int (iv 29), .ref (ad 30), .ref (ad 31), .int (iv 32), .int (iv 33), .int (iv 34), .int (iv 35), .long tl, .int (nI 2), .int (nI (gm_name cs (sA i0) (eA i0))), .int (nI 2), .int (nI (eA i0)), .ref (ad 41), .ref (ad 42), .int (iv 43)])) := by rw [u473]; exact pd_up_s _ _ _
                          have f474 := k471 _ _ (pd_ne f442 f440 (by simp)) f442
                          have f475 := k471 _ _ (pd_ne f443 f440 (by simp)) f443
                          have f476 := k471 _ _ (pd_ne f444 f440 (by simp)) f444
                          refine lv_aload_n hx hb d_p15m16_225 rfl (lv_at hl 2 rfl) ?_
                          refine lv_iload_n hx hb d_p15m16_226 rfl (lv_at hl 0 rfl) ?_
                          refine lv_iconst (v := nI 1) hx hb d_p15m16_227 (by decide) ?_
                          refine pd_iadd hx hb d_p15m16_228 ?_
                          refine pd_put (ty := .int) X w f472 hz_y rfl 40 (by decide) mT_1179 rfl rfl (by decide +kernel) rfl rfl (Nat.le_of_ble_eq_true rfl) d_p15m16_229 (fun H locs w => ?_)
                          have w : pd_w G s H locs (pd_up h470 y (20, .inr (10, [.ref (ad 0), .ref (ad 1), .ref (ad 2), .int (iv 3), .int (iv 4), .int (iv 5), .ref (ad 6), .ref (ad 7), .ref (ad 8), .ref (ad 9), .ref (ad 10), .ref (ad 11), .int (iv 12), .ref (ad 13), .ref (ad 14), .ref (ad 15), .ref (ad 16), .ref (ad 17), .ref (ad 18), .ref (ad 19), .int (iv 20), .ref (ad 21), .ref (ad 22), .ref (ad 23), .ref (ad 24), .ref (ad 25), .ref (ad 26), .ref (ad 27), .ref (ad 28), .int (iv 29), .ref (ad 30), .ref (ad 31), .int (iv 32), .int (iv 33), .int (iv 34), .int (iv 35), .long tl, .int (nI 2), .int (nI (gm_name cs (sA i0) (eA i0))), .int (nI 2), .int (nI (((gm_name cs (sA i0) (eA i0)) + 3) + 1)), .ref (ad 41), .ref (ad 42), .int (iv 43)]))) := w
                          obtain ⟨h477, u480⟩ : ∃ z, z = pd_up h470 y (20, .inr (10, [.ref (ad 0), .ref (ad 1), .ref (ad 2), .int (iv 3), .int (iv 4), .int (iv 5), .ref (ad 6), .ref (ad 7), .ref (ad 8), .ref (ad 9), .ref (ad 10), .ref (ad 11), .int (iv 12), .ref (ad 13), .ref (ad 14), .ref (ad 15), .ref (ad 16), .ref (ad 17), .ref (ad 18), .ref (ad 19), .int (iv 20), .ref (ad 21), .ref (ad 22), .ref (ad 23), .ref (ad 24), .ref (ad 25), .ref (ad 26), .ref (ad 27), .ref (ad 28), .int (iv 29), .ref (ad 30), .ref (ad 31), .int (iv 32), .int (iv 33), .int (iv 34), .int (iv 35), .long tl, .int (nI 2), .int (nI (gm_name cs (sA i0) (eA i0))), .int (nI 2), .int (nI (((gm_name cs (sA i0) (eA i0)) + 3) + 1)), .ref (ad 41), .ref (ad 42), .int (iv 43)])) := ⟨_, rfl⟩
                          rw [← u480] at w
                          have k478 : pd_kq y h470 h477 := by rw [u480]; exact pd_up_kq
                          have f479 : h477 y = some (20, .inr (10, [.ref (ad 0), .ref (ad 1), .ref (ad 2), .int (iv 3), .int (iv 4), .int (iv 5), .ref (ad 6), .ref (ad 7), .ref (ad 8), .ref (ad 9), .ref (ad 10), .ref (ad 11), .int (iv 12), .ref (ad 13), .ref (ad 14), .ref (ad 15), .ref (ad 16), .ref (ad 17), .ref (ad 18), .ref (ad 19), .int (iv 20), .ref (ad 21), .ref (ad 22), .ref (ad 23), .ref (ad 24), .ref (ad 25), .ref (ad 26), .ref (ad 27), .ref (ad 28), .int (iv 29), .ref (ad 30), .ref (ad 31), .int (iv 32), .int (iv 33), .int (iv 34), .int (iv 35), .long tl, .int (nI 2), .int (nI (gm_name cs (sA i0) (eA i0))), .int (nI 2), .int (nI (((gm_name cs (sA i0) (eA i0)) + 3) + 1)), .ref (ad 41), .ref (ad 42), .int (iv 43)])) := by rw [u480]; exact pd_up_s _ _ _
                          have f481 := k478 _ _ (pd_ne f474 f472 (by simp)) f474
                          have f482 := k478 _ _ (pd_ne f475 f472 (by simp)) f475
                          have f483 := k478 _ _ (pd_ne f476 f472 (by simp)) f476
                          refine lv_aload_n hx hb d_p15m16_232 rfl (lv_at hl 2 rfl) ?_
                          refine pd_get X w f479 rfl 39 (by decide) mT_1178 rfl rfl d_p15m16_233 ?_
                          refine lv_iconst (v := nI 1) hx hb d_p15m16_236 (by decide) ?_
                          refine pd_jeq (tgt := 252) hx hb d_p15m16_237 (by decide) (by decide) (by decide) (fun q => absurd q (by decide)) (fun _ => ?_)
                          refine lv_aload_n hx hb d_p15m16_240 rfl (lv_at hl 2 rfl) ?_
                          refine lv_iload_n hx hb d_p15m16_241 rfl (lv_at hl 0 rfl) ?_
                          refine lv_iconst (v := nI 1) hx hb d_p15m16_242 (by decide) ?_
                          refine pd_iadd hx hb d_p15m16_243 ?_
                          refine lv_iload_n hx hb d_p15m16_244 rfl (lv_at hl 1 rfl) ?_
                          refine pd_cV (a := y) (As := [.int (nI (((gm_name cs (sA i0) (eA i0)) + 3) + 1)), .int (nI (eA i0))]) (rest := []) X w f479 rfl (c_PolicyDeskModel_behindPart l G h477 (ad := ad) (fv := fv) (iv := pd_fu (pd_fu (pd_fu (pd_fu iv 37 (nI 2)) 38 (nI (gm_name cs (sA i0) (eA i0)))) 39 (nI 2)) 40 (nI (((gm_name cs (sA i0) (eA i0)) + 3) + 1))) (tl := tl) (pd_MO.of (fv2 := fv) (iv2 := pd_fu (pd_fu (pd_fu (pd_fu iv 37 (nI 2)) 38 (nI (gm_name cs (sA i0) (eA i0)))) 39 (nI 2)) 40 (nI (((gm_name cs (sA i0) (eA i0)) + 3) + 1))) (tl2 := tl) (ts := [20]) hMO (pd_kx.tr (pd_kx.tr (pd_kx.tr (pd_kx.tr (pd_kx.tr (pd_kx.tr (pd_kx.tr (pd_kx.tr (pd_kq.kx (k2) hy0) (pd_kq.kx (k9) f3)) (pd_kq.kx (k22) f10)) (pd_kq.kx (k29) f23)) (pd_kq.kx (k425) f30)) (pd_kq.kx (k432) f426)) (pd_kq.kx (k439) f433)) (pd_kq.kx (k471) f440)) (pd_kq.kx (k478) f472)) f479 (fun j hj => Or.inr ⟨fun z => by first | (simp at z; done) | (simp at z; omega), rfl⟩)) hL (by omega) (by omega)) ok_PolicyDeskModel_behindPart ⟨mT_1315, sT_19⟩ mT_1313 ⟨by decide, by decide⟩ rfl hl.1 rfl (Nat.le_of_ble_eq_true rfl) d_p15m16_245 ⟨by decide, by decide⟩ (fun r485 h486 H locs hp487 w => ?_)
                          refine W.widen (k := 0) (n := 0) (by decide) (by decide) ?_
                          obtain ⟨e488, rfl⟩ := hp487
                          have hpl := gm_part_le (cs := cs) (x := (gm_name cs (sA i0) (eA i0)) + 3 + 1) (to := eA i0) (by omega)
                          refine lv_iload_n hx hb d_p15m16_248 rfl (lv_at hl 1 rfl) ?_
                          refine pd_jne (tgt := 256) hx hb d_p15m16_249 (by decide) (by omega) (by omega) (fun q489 => ?_) (fun q489 => ?_)
                          · -- taken: 256
                            refine lv_iconst (v := nI 0) hx hb d_p15m16_256 (by decide) ?_
                            have hpt : gm_pt cs ((gm_name cs (sA i0) (eA i0)) + 3) (eA i0) = none := by unfold gm_pt; rw [if_neg (by omega), if_neg (by omega), if_neg (by omega), if_neg (by rw [← e488]; omega)]
                            have hp : gm_pat cs (sA i0) (eA i0) = none := by unfold gm_pat; rw [hph]; simp only [hpt]
                            refine W.eq (g2 := F0 m 257 ls [.int (pd_b false)]) rfl ?_
                            exact pd_zret (v := false) X w ⟨by rw [hp]; rfl, pd_kx.tr (pd_kx.tr (pd_kx.tr (pd_kx.tr (pd_kx.tr (pd_kx.tr (pd_kx.tr (pd_kx.tr (pd_kq.kx (k2) hy0) (pd_kq.kx (k9) f3)) (pd_kq.kx (k22) f10)) (pd_kq.kx (k29) f23)) (pd_kq.kx (k425) f30)) (pd_kq.kx (k432) f426)) (pd_kq.kx (k439) f433)) (pd_kq.kx (k471) f440)) (pd_kq.kx (k478) f472), (nI 2), (nI (gm_name cs (sA i0) (eA i0))), (nI 2), (nI (((gm_name cs (sA i0) (eA i0)) + 3) + 1)), (pd_MO.of (fv2 := fv) (iv2 := pd_fu (pd_fu (pd_fu (pd_fu iv 37 (nI 2)) 38 (nI (gm_name cs (sA i0) (eA i0)))) 39 (nI 2)) 40 (nI (((gm_name cs (sA i0) (eA i0)) + 3) + 1))) (tl2 := tl) (ts := [20]) hMO (pd_kx.tr (pd_kx.tr (pd_kx.tr (pd_kx.tr (pd_kx.tr (pd_kx.tr (pd_kx.tr (pd_kx.tr (pd_kq.kx (k2) hy0) (pd_kq.kx (k9) f3)) (pd_kq.kx (k22) f10)) (pd_kq.kx (k29) f23)) (pd_kq.kx (k425) f30)) (pd_kq.kx (k432) f426)) (pd_kq.kx (k439) f433)) (pd_kq.kx (k471) f440)) (pd_kq.kx (k478) f472)) f479 (fun j hj => Or.inr ⟨fun z => by first | (simp at z; done) | (simp at z; omega), rfl⟩)), fun t9 ht9 => by rw [hp] at ht9; cases ht9⟩ (by decide) (by decide) d_p15m16_257
                          · -- not taken: 252
                            refine lv_iconst (v := nI 1) hx hb d_p15m16_252 (by decide) ?_
                            refine lv_goto (tgt := 257) hx hb d_p15m16_253 (by decide) ?_
                            have hpt : gm_pt cs ((gm_name cs (sA i0) (eA i0)) + 3) (eA i0) = some (2, (gm_name cs (sA i0) (eA i0)) + 3 + 1) := by unfold gm_pt; rw [if_neg (by omega), if_neg (by omega), if_neg (by omega), if_pos (by rw [← e488]; omega)]
                            have hp : gm_pat cs (sA i0) (eA i0) = some (2, gm_name cs (sA i0) (eA i0), 2, (gm_name cs (sA i0) (eA i0)) + 3 + 1) := by unfold gm_pat; rw [hph]; simp only [hpt]
                            refine W.eq (g2 := F0 m 257 ls [.int (pd_b true)]) rfl ?_
                            exact pd_zret (v := true) X w ⟨by rw [hp]; rfl, pd_kx.tr (pd_kx.tr (pd_kx.tr (pd_kx.tr (pd_kx.tr (pd_kx.tr (pd_kx.tr (pd_kx.tr (pd_kq.kx (k2) hy0) (pd_kq.kx (k9) f3)) (pd_kq.kx (k22) f10)) (pd_kq.kx (k29) f23)) (pd_kq.kx (k425) f30)) (pd_kq.kx (k432) f426)) (pd_kq.kx (k439) f433)) (pd_kq.kx (k471) f440)) (pd_kq.kx (k478) f472), (nI 2), (nI (gm_name cs (sA i0) (eA i0))), (nI 2), (nI (((gm_name cs (sA i0) (eA i0)) + 3) + 1)), (pd_MO.of (fv2 := fv) (iv2 := pd_fu (pd_fu (pd_fu (pd_fu iv 37 (nI 2)) 38 (nI (gm_name cs (sA i0) (eA i0)))) 39 (nI 2)) 40 (nI (((gm_name cs (sA i0) (eA i0)) + 3) + 1))) (tl2 := tl) (ts := [20]) hMO (pd_kx.tr (pd_kx.tr (pd_kx.tr (pd_kx.tr (pd_kx.tr (pd_kx.tr (pd_kx.tr (pd_kx.tr (pd_kq.kx (k2) hy0) (pd_kq.kx (k9) f3)) (pd_kq.kx (k22) f10)) (pd_kq.kx (k29) f23)) (pd_kq.kx (k425) f30)) (pd_kq.kx (k432) f426)) (pd_kq.kx (k439) f433)) (pd_kq.kx (k471) f440)) (pd_kq.kx (k478) f472)) f479 (fun j hj => Or.inr ⟨fun z => by first | (simp at z; done) | (simp at z; omega), rfl⟩)), fun t9 ht9 => by rw [hp] at ht9; cases ht9; exact ⟨rfl, rfl, rfl, rfl⟩⟩ (by decide) (by decide) d_p15m16_257
                        · -- not taken: 217
                          refine lv_iconst (v := nI 1) hx hb d_p15m16_217 (by decide) ?_
                          refine lv_goto (tgt := 222) hx hb d_p15m16_218 (by decide) ?_
                          refine pd_put (ty := .int) X w f440 hz_y rfl 39 (by decide) mT_1178 rfl rfl (by decide +kernel) rfl rfl (Nat.le_of_ble_eq_true rfl) d_p15m16_222 (fun H locs w => ?_)
                          have w : pd_w G s H locs (pd_up h438 y (20, .inr (10, [.ref (ad 0), .ref (ad 1), .ref (ad 2), .int (iv 3), .int (iv 4), .int (iv 5), .ref (ad 6), .ref (ad 7), .ref (ad 8), .ref (ad 9), .ref (ad 10), .ref (ad 11), .int (iv 12), .ref (ad 13), .ref (ad 14), .ref (ad 15), .ref (ad 16), .ref (ad 17), .ref (ad 18), .ref (ad 19), .int (iv 20), .ref (ad 21), .ref (ad 22), .ref (ad 23), .ref (ad 24), .ref (ad 25), .ref (ad 26), .ref (ad 27), .ref (ad 28), .int (iv 29), .ref (ad 30), .ref (ad 31), .int (iv 32), .int (iv 33), .int (iv 34), .int (iv 35), .long tl, .int (nI 2), .int (nI (gm_name cs (sA i0) (eA i0))), .int (nI 1), .int (nI (eA i0)), .ref (ad 41), .ref (ad 42), .int (iv 43)]))) := w
                          obtain ⟨h490, u493⟩ : ∃ z, z = pd_up h438 y (20, .inr (10, [.ref (ad 0), .ref (ad 1), .ref (ad 2), .int (iv 3), .int (iv 4), .int (iv 5), .ref (ad 6), .ref (ad 7), .ref (ad 8), .ref (ad 9), .ref (ad 10), .ref (ad 11), .int (iv 12), .ref (ad 13), .ref (ad 14), .ref (ad 15), .ref (ad 16), .ref (ad 17), .ref (ad 18), .ref (ad 19), .int (iv 20), .ref (ad 21), .ref (ad 22), .ref (ad 23), .ref (ad 24), .ref (ad 25), .ref (ad 26), .ref (ad 27), .ref (ad 28), .int (iv 29), .ref (ad 30), .ref (ad 31), .int (iv 32), .int (iv 33), .int (iv 34), .int (iv 35), .long tl, .int (nI 2), .int (nI (gm_name cs (sA i0) (eA i0))), .int (nI 1), .int (nI (eA i0)), .ref (ad 41), .ref (ad 42), .int (iv 43)])) := ⟨_, rfl⟩
                          rw [← u493] at w
                          have k491 : pd_kq y h438 h490 := by rw [u493]; exact pd_up_kq
                          have f492 : h490 y = some (20, .inr (10, [.ref (ad 0), .ref (ad 1), .ref (ad 2), .int (iv 3), .int (iv 4), .int (iv 5), .ref (ad 6), .ref (ad 7), .ref (ad 8), .ref (ad 9), .ref (ad 10), .ref (ad 11), .int (iv 12), .ref (ad 13), .ref (ad 14), .ref (ad 15), .ref (ad 16), .ref (ad 17), .ref (ad 18), .ref (ad 19), .int (iv 20), .ref (ad 21), .ref (ad 22), .ref (ad 23), .ref (ad 24), .ref (ad 25), .ref (ad 26), .ref (ad 27), .ref (ad 28), .int (iv 29), .ref (ad 30), .ref (ad 31), .int (iv 32), .int (iv 33), .int (iv 34), .int (iv 35), .long tl, .int (nI 2), .int (nI (gm_name cs (sA i0) (eA i0))), .int (nI 1), .int (nI (eA i0)), .ref (ad 41), .ref (ad 42), .int (iv 43)])) := by rw [u493]; exact pd_up_s _ _ _
                          have f494 := k491 _ _ (pd_ne f442 f440 (by simp)) f442
                          have f495 := k491 _ _ (pd_ne f443 f440 (by simp)) f443
                          have f496 := k491 _ _ (pd_ne f444 f440 (by simp)) f444
                          refine lv_aload_n hx hb d_p15m16_225 rfl (lv_at hl 2 rfl) ?_
                          refine lv_iload_n hx hb d_p15m16_226 rfl (lv_at hl 0 rfl) ?_
                          refine lv_iconst (v := nI 1) hx hb d_p15m16_227 (by decide) ?_
                          refine pd_iadd hx hb d_p15m16_228 ?_
                          refine pd_put (ty := .int) X w f492 hz_y rfl 40 (by decide) mT_1179 rfl rfl (by decide +kernel) rfl rfl (Nat.le_of_ble_eq_true rfl) d_p15m16_229 (fun H locs w => ?_)
                          have w : pd_w G s H locs (pd_up h490 y (20, .inr (10, [.ref (ad 0), .ref (ad 1), .ref (ad 2), .int (iv 3), .int (iv 4), .int (iv 5), .ref (ad 6), .ref (ad 7), .ref (ad 8), .ref (ad 9), .ref (ad 10), .ref (ad 11), .int (iv 12), .ref (ad 13), .ref (ad 14), .ref (ad 15), .ref (ad 16), .ref (ad 17), .ref (ad 18), .ref (ad 19), .int (iv 20), .ref (ad 21), .ref (ad 22), .ref (ad 23), .ref (ad 24), .ref (ad 25), .ref (ad 26), .ref (ad 27), .ref (ad 28), .int (iv 29), .ref (ad 30), .ref (ad 31), .int (iv 32), .int (iv 33), .int (iv 34), .int (iv 35), .long tl, .int (nI 2), .int (nI (gm_name cs (sA i0) (eA i0))), .int (nI 1), .int (nI (((gm_name cs (sA i0) (eA i0)) + 3) + 1)), .ref (ad 41), .ref (ad 42), .int (iv 43)]))) := w
                          obtain ⟨h497, u500⟩ : ∃ z, z = pd_up h490 y (20, .inr (10, [.ref (ad 0), .ref (ad 1), .ref (ad 2), .int (iv 3), .int (iv 4), .int (iv 5), .ref (ad 6), .ref (ad 7), .ref (ad 8), .ref (ad 9), .ref (ad 10), .ref (ad 11), .int (iv 12), .ref (ad 13), .ref (ad 14), .ref (ad 15), .ref (ad 16), .ref (ad 17), .ref (ad 18), .ref (ad 19), .int (iv 20), .ref (ad 21), .ref (ad 22), .ref (ad 23), .ref (ad 24), .ref (ad 25), .ref (ad 26), .ref (ad 27), .ref (ad 28), .int (iv 29), .ref (ad 30), .ref (ad 31), .int (iv 32), .int (iv 33), .int (iv 34), .int (iv 35), .long tl, .int (nI 2), .int (nI (gm_name cs (sA i0) (eA i0))), .int (nI 1), .int (nI (((gm_name cs (sA i0) (eA i0)) + 3) + 1)), .ref (ad 41), .ref (ad 42), .int (iv 43)])) := ⟨_, rfl⟩
                          rw [← u500] at w
                          have k498 : pd_kq y h490 h497 := by rw [u500]; exact pd_up_kq
                          have f499 : h497 y = some (20, .inr (10, [.ref (ad 0), .ref (ad 1), .ref (ad 2), .int (iv 3), .int (iv 4), .int (iv 5), .ref (ad 6), .ref (ad 7), .ref (ad 8), .ref (ad 9), .ref (ad 10), .ref (ad 11), .int (iv 12), .ref (ad 13), .ref (ad 14), .ref (ad 15), .ref (ad 16), .ref (ad 17), .ref (ad 18), .ref (ad 19), .int (iv 20), .ref (ad 21), .ref (ad 22), .ref (ad 23), .ref (ad 24), .ref (ad 25), .ref (ad 26), .ref (ad 27), .ref (ad 28), .int (iv 29), .ref (ad 30), .ref (ad 31), .int (iv 32), .int (iv 33), .int (iv 34), .int (iv 35), .long tl, .int (nI 2), .int (nI (gm_name cs (sA i0) (eA i0))), .int (nI 1), .int (nI (((gm_name cs (sA i0) (eA i0)) + 3) + 1)), .ref (ad 41), .ref (ad 42), .int (iv 43)])) := by rw [u500]; exact pd_up_s _ _ _
                          have f501 := k498 _ _ (pd_ne f494 f492 (by simp)) f494
                          have f502 := k498 _ _ (pd_ne f495 f492 (by simp)) f495
                          have f503 := k498 _ _ (pd_ne f496 f492 (by simp)) f496
                          refine lv_aload_n hx hb d_p15m16_232 rfl (lv_at hl 2 rfl) ?_
                          refine pd_get X w f499 rfl 39 (by decide) mT_1178 rfl rfl d_p15m16_233 ?_
                          refine lv_iconst (v := nI 1) hx hb d_p15m16_236 (by decide) ?_
                          refine pd_jeq (tgt := 252) hx hb d_p15m16_237 (by decide) (by decide) (by decide) (fun _ => ?_) (fun q => absurd q (by decide))
                          refine lv_iconst (v := nI 1) hx hb d_p15m16_252 (by decide) ?_
                          refine lv_goto (tgt := 257) hx hb d_p15m16_253 (by decide) ?_
                          have hpt : gm_pt cs ((gm_name cs (sA i0) (eA i0)) + 3) (eA i0) = some (1, (gm_name cs (sA i0) (eA i0)) + 3 + 1) := by unfold gm_pt; rw [if_neg (by omega), if_neg (by omega), if_pos (by omega)]
                          have hp : gm_pat cs (sA i0) (eA i0) = some (2, gm_name cs (sA i0) (eA i0), 1, (gm_name cs (sA i0) (eA i0)) + 3 + 1) := by unfold gm_pat; rw [hph]; simp only [hpt]
                          refine W.eq (g2 := F0 m 257 ls [.int (pd_b true)]) rfl ?_
                          exact pd_zret (v := true) X w ⟨by rw [hp]; rfl, pd_kx.tr (pd_kx.tr (pd_kx.tr (pd_kx.tr (pd_kx.tr (pd_kx.tr (pd_kx.tr (pd_kx.tr (pd_kq.kx (k2) hy0) (pd_kq.kx (k9) f3)) (pd_kq.kx (k22) f10)) (pd_kq.kx (k29) f23)) (pd_kq.kx (k425) f30)) (pd_kq.kx (k432) f426)) (pd_kq.kx (k439) f433)) (pd_kq.kx (k491) f440)) (pd_kq.kx (k498) f492), (nI 2), (nI (gm_name cs (sA i0) (eA i0))), (nI 1), (nI (((gm_name cs (sA i0) (eA i0)) + 3) + 1)), (pd_MO.of (fv2 := fv) (iv2 := pd_fu (pd_fu (pd_fu (pd_fu iv 37 (nI 2)) 38 (nI (gm_name cs (sA i0) (eA i0)))) 39 (nI 1)) 40 (nI (((gm_name cs (sA i0) (eA i0)) + 3) + 1))) (tl2 := tl) (ts := [20]) hMO (pd_kx.tr (pd_kx.tr (pd_kx.tr (pd_kx.tr (pd_kx.tr (pd_kx.tr (pd_kx.tr (pd_kx.tr (pd_kq.kx (k2) hy0) (pd_kq.kx (k9) f3)) (pd_kq.kx (k22) f10)) (pd_kq.kx (k29) f23)) (pd_kq.kx (k425) f30)) (pd_kq.kx (k432) f426)) (pd_kq.kx (k439) f433)) (pd_kq.kx (k491) f440)) (pd_kq.kx (k498) f492)) f499 (fun j hj => Or.inr ⟨fun z => by first | (simp at z; done) | (simp at z; omega), rfl⟩)), fun t9 ht9 => by rw [hp] at ht9; cases ht9; exact ⟨rfl, rfl, rfl, rfl⟩⟩ (by decide) (by decide) d_p15m16_257
                    · -- not taken: 194
                      refine lv_iconst (v := nI 0) hx hb d_p15m16_194 (by decide) ?_
                      have hpt : gm_pt cs ((gm_name cs (sA i0) (eA i0)) + 3) (eA i0) = none := by unfold gm_pt; rw [if_neg (by omega), if_pos (by omega)]
                      have hp : gm_pat cs (sA i0) (eA i0) = none := by unfold gm_pat; rw [hph]; simp only [hpt]
                      refine W.eq (g2 := F0 m 195 ls [.int (pd_b false)]) rfl ?_
                      exact pd_zret (v := false) X w ⟨by rw [hp]; rfl, pd_kx.tr (pd_kx.tr (pd_kx.tr (pd_kx.tr (pd_kx.tr (pd_kx.tr (pd_kq.kx (k2) hy0) (pd_kq.kx (k9) f3)) (pd_kq.kx (k22) f10)) (pd_kq.kx (k29) f23)) (pd_kq.kx (k425) f30)) (pd_kq.kx (k432) f426)) (pd_kq.kx (k439) f433), (nI 2), (nI (gm_name cs (sA i0) (eA i0))), (nI 0), (nI (eA i0)), (pd_MO.of (fv2 := fv) (iv2 := pd_fu (pd_fu (pd_fu (pd_fu iv 37 (nI 2)) 38 (nI (gm_name cs (sA i0) (eA i0)))) 39 (nI 0)) 40 (nI (eA i0))) (tl2 := tl) (ts := [20]) hMO (pd_kx.tr (pd_kx.tr (pd_kx.tr (pd_kx.tr (pd_kx.tr (pd_kx.tr (pd_kq.kx (k2) hy0) (pd_kq.kx (k9) f3)) (pd_kq.kx (k22) f10)) (pd_kq.kx (k29) f23)) (pd_kq.kx (k425) f30)) (pd_kq.kx (k432) f426)) (pd_kq.kx (k439) f433)) f440 (fun j hj => Or.inr ⟨fun z => by first | (simp at z; done) | (simp at z; omega), rfl⟩)), fun t9 ht9 => by rw [hp] at ht9; cases ht9⟩ (by decide) (by decide) d_p15m16_195
                · -- not taken: 174
                  refine lv_iconst (v := nI 1) hx hb d_p15m16_174 (by decide) ?_
                  have hpt : gm_pt cs ((gm_name cs (sA i0) (eA i0)) + 3) (eA i0) = some (0, eA i0) := by unfold gm_pt; rw [if_pos (by omega)]
                  have hp : gm_pat cs (sA i0) (eA i0) = some (2, gm_name cs (sA i0) (eA i0), 0, eA i0) := by unfold gm_pat; rw [hph]; simp only [hpt]
                  refine W.eq (g2 := F0 m 175 ls [.int (pd_b true)]) rfl ?_
                  exact pd_zret (v := true) X w ⟨by rw [hp]; rfl, pd_kx.tr (pd_kx.tr (pd_kx.tr (pd_kx.tr (pd_kx.tr (pd_kx.tr (pd_kq.kx (k2) hy0) (pd_kq.kx (k9) f3)) (pd_kq.kx (k22) f10)) (pd_kq.kx (k29) f23)) (pd_kq.kx (k425) f30)) (pd_kq.kx (k432) f426)) (pd_kq.kx (k439) f433), (nI 2), (nI (gm_name cs (sA i0) (eA i0))), (nI 0), (nI (eA i0)), (pd_MO.of (fv2 := fv) (iv2 := pd_fu (pd_fu (pd_fu (pd_fu iv 37 (nI 2)) 38 (nI (gm_name cs (sA i0) (eA i0)))) 39 (nI 0)) 40 (nI (eA i0))) (tl2 := tl) (ts := [20]) hMO (pd_kx.tr (pd_kx.tr (pd_kx.tr (pd_kx.tr (pd_kx.tr (pd_kx.tr (pd_kq.kx (k2) hy0) (pd_kq.kx (k9) f3)) (pd_kq.kx (k22) f10)) (pd_kq.kx (k29) f23)) (pd_kq.kx (k425) f30)) (pd_kq.kx (k432) f426)) (pd_kq.kx (k439) f433)) f440 (fun j hj => Or.inr ⟨fun z => by first | (simp at z; done) | (simp at z; omega), rfl⟩)), fun t9 ht9 => by rw [hp] at ht9; cases ht9; exact ⟨rfl, rfl, rfl, rfl⟩⟩ (by decide) (by decide) d_p15m16_175
    · -- not taken: 78
      refine lv_iconst (v := nI 0) hx hb d_p15m16_78 (by decide) ?_
      have hp : gm_pat cs (sA i0) (eA i0) = none := by unfold gm_pat; rw [show gm_ph cs (sA i0) (eA i0) = none by unfold gm_ph; rw [if_neg (by omega), if_pos (by omega)]]
      refine W.eq (g2 := F0 m 79 ls [.int (pd_b false)]) rfl ?_
      exact pd_zret (v := false) X w ⟨by rw [hp]; rfl, pd_kx.tr (pd_kq.kx (k2) hy0) (pd_kq.kx (k9) f3), (nI 3), (nI (sA i0)), (iv 39), (iv 40), (pd_MO.of (fv2 := fv) (iv2 := pd_fu (pd_fu iv 37 (nI 3)) 38 (nI (sA i0))) (tl2 := tl) (ts := [20]) hMO (pd_kx.tr (pd_kq.kx (k2) hy0) (pd_kq.kx (k9) f3)) f10 (fun j hj => Or.inr ⟨fun z => by first | (simp at z; done) | (simp at z; omega), rfl⟩)), fun t9 ht9 => by rw [hp] at ht9; cases ht9⟩ (by decide) (by decide) d_p15m16_79
  · -- not taken: 31
    refine lv_aload_n hx hb d_p15m16_31 rfl (lv_at hl 2 rfl) ?_
    refine pd_get X w f10 rfl 0 (by decide) mT_1139 rfl rfl d_p15m16_32 ?_
    refine lv_iload_n hx hb d_p15m16_35 rfl (lv_at hl 1 rfl) ?_
    refine pd_iald X w f12 (by omega) (by omega) d_p15m16_36 ?_
    refine pd_top (v' := .int (nI (cs.getD (sA i0) 0))) (congrArg Value.int (hln _ (by omega))) ?_
    have := tx_lt hlc (sA i0)
    refine lv_bipush (v := nI 42) hx hb d_p15m16_37 (by decide) ?_
    refine pd_jne (tgt := 61) hx hb d_p15m16_39 (by decide) (by omega) (by omega) (fun q505 => ?_) (fun q505 => ?_)
    · -- taken: 61
      refine lv_aload_n hx hb d_p15m16_61 rfl (lv_at hl 2 rfl) ?_
      refine lv_iload_n hx hb d_p15m16_62 rfl (lv_at hl 1 rfl) ?_
      refine lv_iload_n hx hb d_p15m16_63 rfl (lv_at hl 0 rfl) ?_
      refine pd_cV (a := y) (As := [.int (nI (sA i0)), .int (nI (eA i0))]) (rest := []) X w f10 rfl (c_PolicyDeskModel_behindName l G h8 (ad := ad) (fv := fv) (iv := pd_fu (pd_fu iv 37 (nI 3)) 38 (nI (sA i0))) (tl := tl) (pd_MO.of (fv2 := fv) (iv2 := pd_fu (pd_fu iv 37 (nI 3)) 38 (nI (sA i0))) (tl2 := tl) (ts := [20]) hMO (pd_kx.tr (pd_kq.kx (k2) hy0) (pd_kq.kx (k9) f3)) f10 (fun j hj => Or.inr ⟨fun z => by first | (simp at z; done) | (simp at z; omega), rfl⟩)) hL (by omega) (by omega)) ok_PolicyDeskModel_behindName ⟨mT_1311, sT_18⟩ mT_1309 ⟨by decide, by decide⟩ rfl hl.1 rfl (Nat.le_of_ble_eq_true rfl) d_p15m16_64 ⟨by decide, by decide⟩ (fun r506 h507 H locs hp508 w => ?_)
      refine W.widen (k := 0) (n := 0) (by decide) (by decide) ?_
      obtain ⟨e509, rfl⟩ := hp508
      subst e509
      have hnl := gm_name_le (cs := cs) (Nat.le_of_lt hwl)
      refine lv_istore_n (lv' := [(2, .int (nI (gm_name cs (sA i0) (eA i0)))), (3, .int (nI (eA i0))), (0, .ref y), (1, .int (nI i0))]) hx hb d_p15m16_67 rfl hl (by decide) rfl (fun ls hl => ?_)
      refine lv_iload_n hx hb d_p15m16_68 rfl (lv_at hl 0 rfl) ?_
      refine lv_aload_n hx hb d_p15m16_69 rfl (lv_at hl 2 rfl) ?_
      refine pd_get X w f10 rfl 1 (by decide) mT_1140 rfl rfl d_p15m16_70 ?_
      refine lv_iload_n hx hb d_p15m16_73 rfl (lv_at hl 3 rfl) ?_
      refine pd_iald X w f13 (by omega) (by omega) d_p15m16_74 ?_
      refine pd_top (v' := .int (nI (sA i0))) (congrArg Value.int hws) ?_
      refine pd_jne (tgt := 80) hx hb d_p15m16_75 (by decide) (by omega) (by omega) (fun q510 => ?_) (fun q510 => ?_)
      · -- taken: 80
        refine lv_aload_n hx hb d_p15m16_80 rfl (lv_at hl 2 rfl) ?_
        refine lv_iload_n hx hb d_p15m16_81 rfl (lv_at hl 0 rfl) ?_
        refine pd_put (ty := .int) X w f10 hz_y rfl 38 (by decide) mT_1177 rfl rfl (by decide +kernel) rfl rfl (Nat.le_of_ble_eq_true rfl) d_p15m16_82 (fun H locs w => ?_)
        have w : pd_w G s H locs (pd_up h8 y (20, .inr (10, [.ref (ad 0), .ref (ad 1), .ref (ad 2), .int (iv 3), .int (iv 4), .int (iv 5), .ref (ad 6), .ref (ad 7), .ref (ad 8), .ref (ad 9), .ref (ad 10), .ref (ad 11), .int (iv 12), .ref (ad 13), .ref (ad 14), .ref (ad 15), .ref (ad 16), .ref (ad 17), .ref (ad 18), .ref (ad 19), .int (iv 20), .ref (ad 21), .ref (ad 22), .ref (ad 23), .ref (ad 24), .ref (ad 25), .ref (ad 26), .ref (ad 27), .ref (ad 28), .int (iv 29), .ref (ad 30), .ref (ad 31), .int (iv 32), .int (iv 33), .int (iv 34), .int (iv 35), .long tl, .int (nI 3), .int (nI (gm_name cs (sA i0) (eA i0))), .int (iv 39), .int (iv 40), .ref (ad 41), .ref (ad 42), .int (iv 43)]))) := w
        obtain ⟨h511, u514⟩ : ∃ z, z = pd_up h8 y (20, .inr (10, [.ref (ad 0), .ref (ad 1), .ref (ad 2), .int (iv 3), .int (iv 4), .int (iv 5), .ref (ad 6), .ref (ad 7), .ref (ad 8), .ref (ad 9), .ref (ad 10), .ref (ad 11), .int (iv 12), .ref (ad 13), .ref (ad 14), .ref (ad 15), .ref (ad 16), .ref (ad 17), .ref (ad 18), .ref (ad 19), .int (iv 20), .ref (ad 21), .ref (ad 22), .ref (ad 23), .ref (ad 24), .ref (ad 25), .ref (ad 26), .ref (ad 27), .ref (ad 28), .int (iv 29), .ref (ad 30), .ref (ad 31), .int (iv 32), .int (iv 33), .int (iv 34), .int (iv 35), .long tl, .int (nI 3), .int (nI (gm_name cs (sA i0) (eA i0))), .int (iv 39), .int (iv 40), .ref (ad 41), .ref (ad 42), .int (iv 43)])) := ⟨_, rfl⟩
        rw [← u514] at w
        have k512 : pd_kq y h8 h511 := by rw [u514]; exact pd_up_kq
        have f513 : h511 y = some (20, .inr (10, [.ref (ad 0), .ref (ad 1), .ref (ad 2), .int (iv 3), .int (iv 4), .int (iv 5), .ref (ad 6), .ref (ad 7), .ref (ad 8), .ref (ad 9), .ref (ad 10), .ref (ad 11), .int (iv 12), .ref (ad 13), .ref (ad 14), .ref (ad 15), .ref (ad 16), .ref (ad 17), .ref (ad 18), .ref (ad 19), .int (iv 20), .ref (ad 21), .ref (ad 22), .ref (ad 23), .ref (ad 24), .ref (ad 25), .ref (ad 26), .ref (ad 27), .ref (ad 28), .int (iv 29), .ref (ad 30), .ref (ad 31), .int (iv 32), .int (iv 33), .int (iv 34), .int (iv 35), .long tl, .int (nI 3), .int (nI (gm_name cs (sA i0) (eA i0))), .int (iv 39), .int (iv 40), .ref (ad 41), .ref (ad 42), .int (iv 43)])) := by rw [u514]; exact pd_up_s _ _ _
        have f515 := k512 _ _ (pd_ne f12 f10 (by simp)) f12
        have f516 := k512 _ _ (pd_ne f13 f10 (by simp)) f13
        have f517 := k512 _ _ (pd_ne f14 f10 (by simp)) f14
        refine lv_aload_n hx hb d_p15m16_85 rfl (lv_at hl 2 rfl) ?_
        refine lv_iconst (v := nI 0) hx hb d_p15m16_86 (by decide) ?_
        refine pd_put (ty := .int) X w f513 hz_y rfl 37 (by decide) mT_1176 rfl rfl (by decide +kernel) rfl rfl (Nat.le_of_ble_eq_true rfl) d_p15m16_87 (fun H locs w => ?_)
        have w : pd_w G s H locs (pd_up h511 y (20, .inr (10, [.ref (ad 0), .ref (ad 1), .ref (ad 2), .int (iv 3), .int (iv 4), .int (iv 5), .ref (ad 6), .ref (ad 7), .ref (ad 8), .ref (ad 9), .ref (ad 10), .ref (ad 11), .int (iv 12), .ref (ad 13), .ref (ad 14), .ref (ad 15), .ref (ad 16), .ref (ad 17), .ref (ad 18), .ref (ad 19), .int (iv 20), .ref (ad 21), .ref (ad 22), .ref (ad 23), .ref (ad 24), .ref (ad 25), .ref (ad 26), .ref (ad 27), .ref (ad 28), .int (iv 29), .ref (ad 30), .ref (ad 31), .int (iv 32), .int (iv 33), .int (iv 34), .int (iv 35), .long tl, .int (nI 0), .int (nI (gm_name cs (sA i0) (eA i0))), .int (iv 39), .int (iv 40), .ref (ad 41), .ref (ad 42), .int (iv 43)]))) := w
        obtain ⟨h518, u521⟩ : ∃ z, z = pd_up h511 y (20, .inr (10, [.ref (ad 0), .ref (ad 1), .ref (ad 2), .int (iv 3), .int (iv 4), .int (iv 5), .ref (ad 6), .ref (ad 7), .ref (ad 8), .ref (ad 9), .ref (ad 10), .ref (ad 11), .int (iv 12), .ref (ad 13), .ref (ad 14), .ref (ad 15), .ref (ad 16), .ref (ad 17), .ref (ad 18), .ref (ad 19), .int (iv 20), .ref (ad 21), .ref (ad 22), .ref (ad 23), .ref (ad 24), .ref (ad 25), .ref (ad 26), .ref (ad 27), .ref (ad 28), .int (iv 29), .ref (ad 30), .ref (ad 31), .int (iv 32), .int (iv 33), .int (iv 34), .int (iv 35), .long tl, .int (nI 0), .int (nI (gm_name cs (sA i0) (eA i0))), .int (iv 39), .int (iv 40), .ref (ad 41), .ref (ad 42), .int (iv 43)])) := ⟨_, rfl⟩
        rw [← u521] at w
        have k519 : pd_kq y h511 h518 := by rw [u521]; exact pd_up_kq
        have f520 : h518 y = some (20, .inr (10, [.ref (ad 0), .ref (ad 1), .ref (ad 2), .int (iv 3), .int (iv 4), .int (iv 5), .ref (ad 6), .ref (ad 7), .ref (ad 8), .ref (ad 9), .ref (ad 10), .ref (ad 11), .int (iv 12), .ref (ad 13), .ref (ad 14), .ref (ad 15), .ref (ad 16), .ref (ad 17), .ref (ad 18), .ref (ad 19), .int (iv 20), .ref (ad 21), .ref (ad 22), .ref (ad 23), .ref (ad 24), .ref (ad 25), .ref (ad 26), .ref (ad 27), .ref (ad 28), .int (iv 29), .ref (ad 30), .ref (ad 31), .int (iv 32), .int (iv 33), .int (iv 34), .int (iv 35), .long tl, .int (nI 0), .int (nI (gm_name cs (sA i0) (eA i0))), .int (iv 39), .int (iv 40), .ref (ad 41), .ref (ad 42), .int (iv 43)])) := by rw [u521]; exact pd_up_s _ _ _
        have f522 := k519 _ _ (pd_ne f515 f513 (by simp)) f515
        have f523 := k519 _ _ (pd_ne f516 f513 (by simp)) f516
        have f524 := k519 _ _ (pd_ne f517 f513 (by simp)) f517
        refine lv_iload_n hx hb d_p15m16_90 rfl (lv_at hl 0 rfl) ?_
        refine lv_iconst (v := nI 1) hx hb d_p15m16_91 (by decide) ?_
        refine pd_iadd hx hb d_p15m16_92 ?_
        refine lv_iload_n hx hb d_p15m16_93 rfl (lv_at hl 1 rfl) ?_
        refine pd_jge (tgt := 159) hx hb d_p15m16_94 (by decide) (by omega) (by omega) (fun q525 => ?_) (fun q525 => ?_)
        · -- taken: 159
          have hph : gm_ph cs (sA i0) (eA i0) = some (0, gm_name cs (sA i0) (eA i0), gm_name cs (sA i0) (eA i0)) := by unfold gm_ph; rw [if_neg (by omega), if_neg (by omega), if_neg (by omega)]
          refine lv_aload_n hx hb d_p15m16_159 rfl (lv_at hl 2 rfl) ?_
          refine lv_iconst (v := nI 0) hx hb d_p15m16_160 (by decide) ?_
          refine pd_put (ty := .int) X w f520 hz_y rfl 39 (by decide) mT_1178 rfl rfl (by decide +kernel) rfl rfl (Nat.le_of_ble_eq_true rfl) d_p15m16_161 (fun H locs w => ?_)
          have w : pd_w G s H locs (pd_up h518 y (20, .inr (10, [.ref (ad 0), .ref (ad 1), .ref (ad 2), .int (iv 3), .int (iv 4), .int (iv 5), .ref (ad 6), .ref (ad 7), .ref (ad 8), .ref (ad 9), .ref (ad 10), .ref (ad 11), .int (iv 12), .ref (ad 13), .ref (ad 14), .ref (ad 15), .ref (ad 16), .ref (ad 17), .ref (ad 18), .ref (ad 19), .int (iv 20), .ref (ad 21), .ref (ad 22), .ref (ad 23), .ref (ad 24), .ref (ad 25), .ref (ad 26), .ref (ad 27), .ref (ad 28), .int (iv 29), .ref (ad 30), .ref (ad 31), .int (iv 32), .int (iv 33), .int (iv 34), .int (iv 35), .long tl, .int (nI 0), .int (nI (gm_name cs (sA i0) (eA i0))), .int (nI 0), .int (iv 40), .ref (ad 41), .ref (ad 42), .int (iv 43)]))) := w
          obtain ⟨h526, u529⟩ : ∃ z, z = pd_up h518 y (20, .inr (10, [.ref (ad 0), .ref (ad 1), .ref (ad 2), .int (iv 3), .int (iv 4), .int (iv 5), .ref (ad 6), .ref (ad 7), .ref (ad 8), .ref (ad 9), .ref (ad 10), .ref (ad 11), .int (iv 12), .ref (ad 13), .ref (ad 14), .ref (ad 15), .ref (ad 16), .ref (ad 17), .ref (ad 18), .ref (ad 19), .int (iv 20), .ref (ad 21), .ref (ad 22), .ref (ad 23), .ref (ad 24), .ref (ad 25), .ref (ad 26), .ref (ad 27), .ref (ad 28), .int (iv 29), .ref (ad 30), .ref (ad 31), .int (iv 32), .int (iv 33), .int (iv 34), .int (iv 35), .long tl, .int (nI 0), .int (nI (gm_name cs (sA i0) (eA i0))), .int (nI 0), .int (iv 40), .ref (ad 41), .ref (ad 42), .int (iv 43)])) := ⟨_, rfl⟩
          rw [← u529] at w
          have k527 : pd_kq y h518 h526 := by rw [u529]; exact pd_up_kq
          have f528 : h526 y = some (20, .inr (10, [.ref (ad 0), .ref (ad 1), .ref (ad 2), .int (iv 3), .int (iv 4), .int (iv 5), .ref (ad 6), .ref (ad 7), .ref (ad 8), .ref (ad 9), .ref (ad 10), .ref (ad 11), .int (iv 12), .ref (ad 13), .ref (ad 14), .ref (ad 15), .ref (ad 16), .ref (ad 17), .ref (ad 18), .ref (ad 19), .int (iv 20), .ref (ad 21), .ref (ad 22), .ref (ad 23), .ref (ad 24), .ref (ad 25), .ref (ad 26), .ref (ad 27), .ref (ad 28), .int (iv 29), .ref (ad 30), .ref (ad 31), .int (iv 32), .int (iv 33), .int (iv 34), .int (iv 35), .long tl, .int (nI 0), .int (nI (gm_name cs (sA i0) (eA i0))), .int (nI 0), .int (iv 40), .ref (ad 41), .ref (ad 42), .int (iv 43)])) := by rw [u529]; exact pd_up_s _ _ _
          have f530 := k527 _ _ (pd_ne f522 f520 (by simp)) f522
          have f531 := k527 _ _ (pd_ne f523 f520 (by simp)) f523
          have f532 := k527 _ _ (pd_ne f524 f520 (by simp)) f524
          refine lv_aload_n hx hb d_p15m16_164 rfl (lv_at hl 2 rfl) ?_
          refine lv_iload_n hx hb d_p15m16_165 rfl (lv_at hl 1 rfl) ?_
          refine pd_put (ty := .int) X w f528 hz_y rfl 40 (by decide) mT_1179 rfl rfl (by decide +kernel) rfl rfl (Nat.le_of_ble_eq_true rfl) d_p15m16_166 (fun H locs w => ?_)
          have w : pd_w G s H locs (pd_up h526 y (20, .inr (10, [.ref (ad 0), .ref (ad 1), .ref (ad 2), .int (iv 3), .int (iv 4), .int (iv 5), .ref (ad 6), .ref (ad 7), .ref (ad 8), .ref (ad 9), .ref (ad 10), .ref (ad 11), .int (iv 12), .ref (ad 13), .ref (ad 14), .ref (ad 15), .ref (ad 16), .ref (ad 17), .ref (ad 18), .ref (ad 19), .int (iv 20), .ref (ad 21), .ref (ad 22), .ref (ad 23), .ref (ad 24), .ref (ad 25), .ref (ad 26), .ref (ad 27), .ref (ad 28), .int (iv 29), .ref (ad 30), .ref (ad 31), .int (iv 32), .int (iv 33), .int (iv 34), .int (iv 35), .long tl, .int (nI 0), .int (nI (gm_name cs (sA i0) (eA i0))), .int (nI 0), .int (nI (eA i0)), .ref (ad 41), .ref (ad 42), .int (iv 43)]))) := w
          obtain ⟨h533, u536⟩ : ∃ z, z = pd_up h526 y (20, .inr (10, [.ref (ad 0), .ref (ad 1), .ref (ad 2), .int (iv 3), .int (iv 4), .int (iv 5), .ref (ad 6), .ref (ad 7), .ref (ad 8), .ref (ad 9), .ref (ad 10), .ref (ad 11), .int (iv 12), .ref (ad 13), .ref (ad 14), .ref (ad 15), .ref (ad 16), .ref (ad 17), .ref (ad 18), .ref (ad 19), .int (iv 20), .ref (ad 21), .ref (ad 22), .ref (ad 23), .ref (ad 24), .ref (ad 25), .ref (ad 26), .ref (ad 27), .ref (ad 28), .int (iv 29), .ref (ad 30), .ref (ad 31), .int (iv 32), .int (iv 33), .int (iv 34), .int (iv 35), .long tl, .int (nI 0), .int (nI (gm_name cs (sA i0) (eA i0))), .int (nI 0), .int (nI (eA i0)), .ref (ad 41), .ref (ad 42), .int (iv 43)])) := ⟨_, rfl⟩
          rw [← u536] at w
          have k534 : pd_kq y h526 h533 := by rw [u536]; exact pd_up_kq
          have f535 : h533 y = some (20, .inr (10, [.ref (ad 0), .ref (ad 1), .ref (ad 2), .int (iv 3), .int (iv 4), .int (iv 5), .ref (ad 6), .ref (ad 7), .ref (ad 8), .ref (ad 9), .ref (ad 10), .ref (ad 11), .int (iv 12), .ref (ad 13), .ref (ad 14), .ref (ad 15), .ref (ad 16), .ref (ad 17), .ref (ad 18), .ref (ad 19), .int (iv 20), .ref (ad 21), .ref (ad 22), .ref (ad 23), .ref (ad 24), .ref (ad 25), .ref (ad 26), .ref (ad 27), .ref (ad 28), .int (iv 29), .ref (ad 30), .ref (ad 31), .int (iv 32), .int (iv 33), .int (iv 34), .int (iv 35), .long tl, .int (nI 0), .int (nI (gm_name cs (sA i0) (eA i0))), .int (nI 0), .int (nI (eA i0)), .ref (ad 41), .ref (ad 42), .int (iv 43)])) := by rw [u536]; exact pd_up_s _ _ _
          have f537 := k534 _ _ (pd_ne f530 f528 (by simp)) f530
          have f538 := k534 _ _ (pd_ne f531 f528 (by simp)) f531
          have f539 := k534 _ _ (pd_ne f532 f528 (by simp)) f532
          refine lv_iload_n hx hb d_p15m16_169 rfl (lv_at hl 0 rfl) ?_
          refine lv_iload_n hx hb d_p15m16_170 rfl (lv_at hl 1 rfl) ?_
          refine pd_jne (tgt := 176) hx hb d_p15m16_171 (by decide) (by omega) (by omega) (fun q540 => ?_) (fun q540 => ?_)
          · -- taken: 176
            refine lv_aload_n hx hb d_p15m16_176 rfl (lv_at hl 2 rfl) ?_
            refine pd_get X w f535 rfl 0 (by decide) mT_1139 rfl rfl d_p15m16_177 ?_
            refine lv_iload_n hx hb d_p15m16_180 rfl (lv_at hl 0 rfl) ?_
            refine pd_iald X w f537 (by omega) (by omega) d_p15m16_181 ?_
            refine pd_top (v' := .int (nI (cs.getD (gm_name cs (sA i0) (eA i0)) 0))) (congrArg Value.int (hln _ (by omega))) ?_
            have := tx_lt hlc (gm_name cs (sA i0) (eA i0))
            refine lv_bipush (v := nI 46) hx hb d_p15m16_182 (by decide) ?_
            refine pd_jne (tgt := 194) hx hb d_p15m16_184 (by decide) (by omega) (by omega) (fun q541 => ?_) (fun q541 => ?_)
            · -- taken: 194
              refine lv_iconst (v := nI 0) hx hb d_p15m16_194 (by decide) ?_
              have hpt : gm_pt cs (gm_name cs (sA i0) (eA i0)) (eA i0) = none := by unfold gm_pt; rw [if_neg (by omega), if_pos (by omega)]
              have hp : gm_pat cs (sA i0) (eA i0) = none := by unfold gm_pat; rw [hph]; simp only [hpt]
              refine W.eq (g2 := F0 m 195 ls [.int (pd_b false)]) rfl ?_
              exact pd_zret (v := false) X w ⟨by rw [hp]; rfl, pd_kx.tr (pd_kx.tr (pd_kx.tr (pd_kx.tr (pd_kx.tr (pd_kq.kx (k2) hy0) (pd_kq.kx (k9) f3)) (pd_kq.kx (k512) f10)) (pd_kq.kx (k519) f513)) (pd_kq.kx (k527) f520)) (pd_kq.kx (k534) f528), (nI 0), (nI (gm_name cs (sA i0) (eA i0))), (nI 0), (nI (eA i0)), (pd_MO.of (fv2 := fv) (iv2 := pd_fu (pd_fu (pd_fu (pd_fu iv 37 (nI 0)) 38 (nI (gm_name cs (sA i0) (eA i0)))) 39 (nI 0)) 40 (nI (eA i0))) (tl2 := tl) (ts := [20]) hMO (pd_kx.tr (pd_kx.tr (pd_kx.tr (pd_kx.tr (pd_kx.tr (pd_kq.kx (k2) hy0) (pd_kq.kx (k9) f3)) (pd_kq.kx (k512) f10)) (pd_kq.kx (k519) f513)) (pd_kq.kx (k527) f520)) (pd_kq.kx (k534) f528)) f535 (fun j hj => Or.inr ⟨fun z => by first | (simp at z; done) | (simp at z; omega), rfl⟩)), fun t9 ht9 => by rw [hp] at ht9; cases ht9⟩ (by decide) (by decide) d_p15m16_195
            · -- not taken: 187
              refine lv_iload_n hx hb d_p15m16_187 rfl (lv_at hl 0 rfl) ?_
              refine lv_iconst (v := nI 1) hx hb d_p15m16_188 (by decide) ?_
              refine pd_iadd hx hb d_p15m16_189 ?_
              refine lv_iload_n hx hb d_p15m16_190 rfl (lv_at hl 1 rfl) ?_
              refine pd_jne (tgt := 196) hx hb d_p15m16_191 (by decide) (by omega) (by omega) (fun q542 => ?_) (fun q542 => ?_)
              · -- taken: 196
                refine lv_aload_n hx hb d_p15m16_196 rfl (lv_at hl 2 rfl) ?_
                refine lv_aload_n hx hb d_p15m16_197 rfl (lv_at hl 2 rfl) ?_
                refine pd_get X w f535 rfl 0 (by decide) mT_1139 rfl rfl d_p15m16_198 ?_
                refine lv_iload_n hx hb d_p15m16_201 rfl (lv_at hl 0 rfl) ?_
                refine lv_iconst (v := nI 1) hx hb d_p15m16_202 (by decide) ?_
                refine pd_iadd hx hb d_p15m16_203 ?_
                refine pd_iald X w f537 (by omega) (by omega) d_p15m16_204 ?_
                refine pd_top (v' := .int (nI (cs.getD ((gm_name cs (sA i0) (eA i0)) + 1) 0))) (congrArg Value.int (hln _ (by omega))) ?_
                have := tx_lt hlc ((gm_name cs (sA i0) (eA i0)) + 1)
                refine lv_bipush (v := nI 42) hx hb d_p15m16_205 (by decide) ?_
                refine pd_jne (tgt := 221) hx hb d_p15m16_207 (by decide) (by omega) (by omega) (fun q543 => ?_) (fun q543 => ?_)
                · -- taken: 221
                  refine lv_iconst (v := nI 2) hx hb d_p15m16_221 (by decide) ?_
                  refine pd_put (ty := .int) X w f535 hz_y rfl 39 (by decide) mT_1178 rfl rfl (by decide +kernel) rfl rfl (Nat.le_of_ble_eq_true rfl) d_p15m16_222 (fun H locs w => ?_)
                  have w : pd_w G s H locs (pd_up h533 y (20, .inr (10, [.ref (ad 0), .ref (ad 1), .ref (ad 2), .int (iv 3), .int (iv 4), .int (iv 5), .ref (ad 6), .ref (ad 7), .ref (ad 8), .ref (ad 9), .ref (ad 10), .ref (ad 11), .int (iv 12), .ref (ad 13), .ref (ad 14), .ref (ad 15), .ref (ad 16), .ref (ad 17), .ref (ad 18), .ref (ad 19), .int (iv 20), .ref (ad 21), .ref (ad 22), .ref (ad 23), .ref (ad 24), .ref (ad 25), .ref (ad 26), .ref (ad 27), .ref (ad 28), .int (iv 29), .ref (ad 30), .ref (ad 31), .int (iv 32), .int (iv 33), .int (iv 34), .int (iv 35), .long tl, .int (nI 0), .int (nI (gm_name cs (sA i0) (eA i0))), .int (nI 2), .int (nI (eA i0)), .ref (ad 41), .ref (ad 42), .int (iv 43)]))) := w
                  obtain ⟨h544, u547⟩ : ∃ z, z = pd_up h533 y (20, .inr (10, [.ref (ad 0), .ref (ad 1), .ref (ad 2), .int (iv 3), .int (iv 4), .int (iv 5), .ref (ad 6), .ref (ad 7), .ref (ad 8), .ref (ad 9), .ref (ad 10), .ref (ad 11), .int (iv 12), .ref (ad 13), .ref (ad 14), .ref (ad 15), .ref (ad 16), .ref (ad 17), .ref (ad 18), .ref (ad 19), .int (iv 20), .ref (ad 21), .ref (ad 22), .ref (ad 23), .ref (ad 24), .ref (ad 25), .ref (ad 26), .ref (ad 27), .ref (ad 28), .int (iv 29), .ref (ad 30), .ref (ad 31), .int (iv 32), .int (iv 33), .int (iv 34), .int (iv 35), .long tl, .int (nI 0), .int (nI (gm_name cs (sA i0) (eA i0))), .int (nI 2), .int (nI (eA i0)), .ref (ad 41), .ref (ad 42), .int (iv 43)])) := ⟨_, rfl⟩
                  rw [← u547] at w
                  have k545 : pd_kq y h533 h544 := by rw [u547]; exact pd_up_kq
                  have f546 : h544 y = some (20, .inr (10, [.ref (ad 0), .ref (ad 1), .ref (ad 2), .int (iv 3), .int (iv 4), .int (iv 5), .ref (ad 6), .ref (ad 7), .ref (ad 8), .ref (ad 9), .ref (ad 10), .ref (ad 11), .int (iv 12), .ref (ad 13), .ref (ad 14), .ref (ad 15), .ref (ad 16), .ref (ad 17), .ref (ad 18), .ref (ad 19), .int (iv 20), .ref (ad 21), .ref (ad 22), .ref (ad 23), .ref (ad 24), .ref (ad 25), .ref (ad 26), .ref (ad 27), .ref (ad 28), .int (iv 29), .ref (ad 30), .ref (ad 31), .int (iv 32), .int (iv 33), .int (iv 34), .int (iv 35), .long tl, .int (nI 0), .int (nI (gm_name cs (sA i0) (eA i0))), .int (nI 2), .int (nI (eA i0)), .ref (ad 41), .ref (ad 42), .int (iv 43)])) := by rw [u547]; exact pd_up_s _ _ _
                  have f548 := k545 _ _ (pd_ne f537 f535 (by simp)) f537
                  have f549 := k545 _ _ (pd_ne f538 f535 (by simp)) f538
                  have f550 := k545 _ _ (pd_ne f539 f535 (by simp)) f539
                  refine lv_aload_n hx hb d_p15m16_225 rfl (lv_at hl 2 rfl) ?_
                  refine lv_iload_n hx hb d_p15m16_226 rfl (lv_at hl 0 rfl) ?_
                  refine lv_iconst (v := nI 1) hx hb d_p15m16_227 (by decide) ?_
                  refine pd_iadd hx hb d_p15m16_228 ?_
                  refine pd_put (ty := .int) X w f546 hz_y rfl 40 (by decide) mT_1179 rfl rfl (by decide +kernel) rfl rfl (Nat.le_of_ble_eq_true rfl) d_p15m16_229 (fun H locs w => ?_)
                  have w : pd_w G s H locs (pd_up h544 y (20, .inr (10, [.ref (ad 0), .ref (ad 1), .ref (ad 2), .int (iv 3), .int (iv 4), .int (iv 5), .ref (ad 6), .ref (ad 7), .ref (ad 8), .ref (ad 9), .ref (ad 10), .ref (ad 11), .int (iv 12), .ref (ad 13), .ref (ad 14), .ref (ad 15), .ref (ad 16), .ref (ad 17), .ref (ad 18), .ref (ad 19), .int (iv 20), .ref (ad 21), .ref (ad 22), .ref (ad 23), .ref (ad 24), .ref (ad 25), .ref (ad 26), .ref (ad 27), .ref (ad 28), .int (iv 29), .ref (ad 30), .ref (ad 31), .int (iv 32), .int (iv 33), .int (iv 34), .int (iv 35), .long tl, .int (nI 0), .int (nI (gm_name cs (sA i0) (eA i0))), .int (nI 2), .int (nI ((gm_name cs (sA i0) (eA i0)) + 1)), .ref (ad 41), .ref (ad 42), .int (iv 43)]))) := w
                  obtain ⟨h551, u554⟩ : ∃ z, z = pd_up h544 y (20, .inr (10, [.ref (ad 0), .ref (ad 1), .ref (ad 2), .int (iv 3), .int (iv 4), .int (iv 5), .ref (ad 6), .ref (ad 7), .ref (ad 8), .ref (ad 9), .ref (ad 10), .ref (ad 11), .int (iv 12), .ref (ad 13), .ref (ad 14), .ref (ad 15), .ref (ad 16), .ref (ad 17), .ref (ad 18), .ref (ad 19), .int (iv 20), .ref (ad 21), .ref (ad 22), .ref (ad 23), .ref (ad 24), .ref (ad 25), .ref (ad 26), .ref (ad 27), .ref (ad 28), .int (iv 29), .ref (ad 30), .ref (ad 31), .int (iv 32), .int (iv 33), .int (iv 34), .int (iv 35), .long tl, .int (nI 0), .int (nI (gm_name cs (sA i0) (eA i0))), .int (nI 2), .int (nI ((gm_name cs (sA i0) (eA i0)) + 1)), .ref (ad 41), .ref (ad 42), .int (iv 43)])) := ⟨_, rfl⟩
                  rw [← u554] at w
                  have k552 : pd_kq y h544 h551 := by rw [u554]; exact pd_up_kq
                  have f553 : h551 y = some (20, .inr (10, [.ref (ad 0), .ref (ad 1), .ref (ad 2), .int (iv 3), .int (iv 4), .int (iv 5), .ref (ad 6), .ref (ad 7), .ref (ad 8), .ref (ad 9), .ref (ad 10), .ref (ad 11), .int (iv 12), .ref (ad 13), .ref (ad 14), .ref (ad 15), .ref (ad 16), .ref (ad 17), .ref (ad 18), .ref (ad 19), .int (iv 20), .ref (ad 21), .ref (ad 22), .ref (ad 23), .ref (ad 24), .ref (ad 25), .ref (ad 26), .ref (ad 27), .ref (ad 28), .int (iv 29), .ref (ad 30), .ref (ad 31), .int (iv 32), .int (iv 33), .int (iv 34), .int (iv 35), .long tl, .int (nI 0), .int (nI (gm_name cs (sA i0) (eA i0))), .int (nI 2), .int (nI ((gm_name cs (sA i0) (eA i0)) + 1)), .ref (ad 41), .ref (ad 42), .int (iv 43)])) := by rw [u554]; exact pd_up_s _ _ _
                  have f555 := k552 _ _ (pd_ne f548 f546 (by simp)) f548
                  have f556 := k552 _ _ (pd_ne f549 f546 (by simp)) f549
                  have f557 := k552 _ _ (pd_ne f550 f546 (by simp)) f550
                  refine lv_aload_n hx hb d_p15m16_232 rfl (lv_at hl 2 rfl) ?_
                  refine pd_get X w f553 rfl 39 (by decide) mT_1178 rfl rfl d_p15m16_233 ?_
                  refine lv_iconst (v := nI 1) hx hb d_p15m16_236 (by decide) ?_
                  refine pd_jeq (tgt := 252) hx hb d_p15m16_237 (by decide) (by decide) (by decide) (fun q => absurd q (by decide)) (fun _ => ?_)
                  refine lv_aload_n hx hb d_p15m16_240 rfl (lv_at hl 2 rfl) ?_
                  refine lv_iload_n hx hb d_p15m16_241 rfl (lv_at hl 0 rfl) ?_
                  refine lv_iconst (v := nI 1) hx hb d_p15m16_242 (by decide) ?_
                  refine pd_iadd hx hb d_p15m16_243 ?_
                  refine lv_iload_n hx hb d_p15m16_244 rfl (lv_at hl 1 rfl) ?_
                  refine pd_cV (a := y) (As := [.int (nI ((gm_name cs (sA i0) (eA i0)) + 1)), .int (nI (eA i0))]) (rest := []) X w f553 rfl (c_PolicyDeskModel_behindPart l G h551 (ad := ad) (fv := fv) (iv := pd_fu (pd_fu (pd_fu (pd_fu iv 37 (nI 0)) 38 (nI (gm_name cs (sA i0) (eA i0)))) 39 (nI 2)) 40 (nI ((gm_name cs (sA i0) (eA i0)) + 1))) (tl := tl) (pd_MO.of (fv2 := fv) (iv2 := pd_fu (pd_fu (pd_fu (pd_fu iv 37 (nI 0)) 38 (nI (gm_name cs (sA i0) (eA i0)))) 39 (nI 2)) 40 (nI ((gm_name cs (sA i0) (eA i0)) + 1))) (tl2 := tl) (ts := [20]) hMO (pd_kx.tr (pd_kx.tr (pd_kx.tr (pd_kx.tr (pd_kx.tr (pd_kx.tr (pd_kx.tr (pd_kq.kx (k2) hy0) (pd_kq.kx (k9) f3)) (pd_kq.kx (k512) f10)) (pd_kq.kx (k519) f513)) (pd_kq.kx (k527) f520)) (pd_kq.kx (k534) f528)) (pd_kq.kx (k545) f535)) (pd_kq.kx (k552) f546)) f553 (fun j hj => Or.inr ⟨fun z => by first | (simp at z; done) | (simp at z; omega), rfl⟩)) hL (by omega) (by omega)) ok_PolicyDeskModel_behindPart ⟨mT_1315, sT_19⟩ mT_1313 ⟨by decide, by decide⟩ rfl hl.1 rfl (Nat.le_of_ble_eq_true rfl) d_p15m16_245 ⟨by decide, by decide⟩ (fun r559 h560 H locs hp561 w => ?_)
                  refine W.widen (k := 0) (n := 0) (by decide) (by decide) ?_
                  obtain ⟨e562, rfl⟩ := hp561
                  have hpl := gm_part_le (cs := cs) (x := gm_name cs (sA i0) (eA i0) + 1) (to := eA i0) (by omega)
                  refine lv_iload_n hx hb d_p15m16_248 rfl (lv_at hl 1 rfl) ?_
                  refine pd_jne (tgt := 256) hx hb d_p15m16_249 (by decide) (by omega) (by omega) (fun q563 => ?_) (fun q563 => ?_)
                  · -- taken: 256
                    refine lv_iconst (v := nI 0) hx hb d_p15m16_256 (by decide) ?_
                    have hpt : gm_pt cs (gm_name cs (sA i0) (eA i0)) (eA i0) = none := by unfold gm_pt; rw [if_neg (by omega), if_neg (by omega), if_neg (by omega), if_neg (by rw [← e562]; omega)]
                    have hp : gm_pat cs (sA i0) (eA i0) = none := by unfold gm_pat; rw [hph]; simp only [hpt]
                    refine W.eq (g2 := F0 m 257 ls [.int (pd_b false)]) rfl ?_
                    exact pd_zret (v := false) X w ⟨by rw [hp]; rfl, pd_kx.tr (pd_kx.tr (pd_kx.tr (pd_kx.tr (pd_kx.tr (pd_kx.tr (pd_kx.tr (pd_kq.kx (k2) hy0) (pd_kq.kx (k9) f3)) (pd_kq.kx (k512) f10)) (pd_kq.kx (k519) f513)) (pd_kq.kx (k527) f520)) (pd_kq.kx (k534) f528)) (pd_kq.kx (k545) f535)) (pd_kq.kx (k552) f546), (nI 0), (nI (gm_name cs (sA i0) (eA i0))), (nI 2), (nI ((gm_name cs (sA i0) (eA i0)) + 1)), (pd_MO.of (fv2 := fv) (iv2 := pd_fu (pd_fu (pd_fu (pd_fu iv 37 (nI 0)) 38 (nI (gm_name cs (sA i0) (eA i0)))) 39 (nI 2)) 40 (nI ((gm_name cs (sA i0) (eA i0)) + 1))) (tl2 := tl) (ts := [20]) hMO (pd_kx.tr (pd_kx.tr (pd_kx.tr (pd_kx.tr (pd_kx.tr (pd_kx.tr (pd_kx.tr (pd_kq.kx (k2) hy0) (pd_kq.kx (k9) f3)) (pd_kq.kx (k512) f10)) (pd_kq.kx (k519) f513)) (pd_kq.kx (k527) f520)) (pd_kq.kx (k534) f528)) (pd_kq.kx (k545) f535)) (pd_kq.kx (k552) f546)) f553 (fun j hj => Or.inr ⟨fun z => by first | (simp at z; done) | (simp at z; omega), rfl⟩)), fun t9 ht9 => by rw [hp] at ht9; cases ht9⟩ (by decide) (by decide) d_p15m16_257
                  · -- not taken: 252
                    refine lv_iconst (v := nI 1) hx hb d_p15m16_252 (by decide) ?_
                    refine lv_goto (tgt := 257) hx hb d_p15m16_253 (by decide) ?_
                    have hpt : gm_pt cs (gm_name cs (sA i0) (eA i0)) (eA i0) = some (2, gm_name cs (sA i0) (eA i0) + 1) := by unfold gm_pt; rw [if_neg (by omega), if_neg (by omega), if_neg (by omega), if_pos (by rw [← e562]; omega)]
                    have hp : gm_pat cs (sA i0) (eA i0) = some (0, gm_name cs (sA i0) (eA i0), 2, gm_name cs (sA i0) (eA i0) + 1) := by unfold gm_pat; rw [hph]; simp only [hpt]
                    refine W.eq (g2 := F0 m 257 ls [.int (pd_b true)]) rfl ?_
                    exact pd_zret (v := true) X w ⟨by rw [hp]; rfl, pd_kx.tr (pd_kx.tr (pd_kx.tr (pd_kx.tr (pd_kx.tr (pd_kx.tr (pd_kx.tr (pd_kq.kx (k2) hy0) (pd_kq.kx (k9) f3)) (pd_kq.kx (k512) f10)) (pd_kq.kx (k519) f513)) (pd_kq.kx (k527) f520)) (pd_kq.kx (k534) f528)) (pd_kq.kx (k545) f535)) (pd_kq.kx (k552) f546), (nI 0), (nI (gm_name cs (sA i0) (eA i0))), (nI 2), (nI ((gm_name cs (sA i0) (eA i0)) + 1)), (pd_MO.of (fv2 := fv) (iv2 := pd_fu (pd_fu (pd_fu (pd_fu iv 37 (nI 0)) 38 (nI (gm_name cs (sA i0) (eA i0)))) 39 (nI 2)) 40 (nI ((gm_name cs (sA i0) (eA i0)) + 1))) (tl2 := tl) (ts := [20]) hMO (pd_kx.tr (pd_kx.tr (pd_kx.tr (pd_kx.tr (pd_kx.tr (pd_kx.tr (pd_kx.tr (pd_kq.kx (k2) hy0) (pd_kq.kx (k9) f3)) (pd_kq.kx (k512) f10)) (pd_kq.kx (k519) f513)) (pd_kq.kx (k527) f520)) (pd_kq.kx (k534) f528)) (pd_kq.kx (k545) f535)) (pd_kq.kx (k552) f546)) f553 (fun j hj => Or.inr ⟨fun z => by first | (simp at z; done) | (simp at z; omega), rfl⟩)), fun t9 ht9 => by rw [hp] at ht9; cases ht9; exact ⟨rfl, rfl, rfl, rfl⟩⟩ (by decide) (by decide) d_p15m16_257
                · -- not taken: 210
                  refine lv_iload_n hx hb d_p15m16_210 rfl (lv_at hl 0 rfl) ?_
                  refine lv_iconst (v := nI 2) hx hb d_p15m16_211 (by decide) ?_
                  refine pd_iadd hx hb d_p15m16_212 ?_
                  refine lv_iload_n hx hb d_p15m16_213 rfl (lv_at hl 1 rfl) ?_
                  refine pd_jne (tgt := 221) hx hb d_p15m16_214 (by decide) (by omega) (by omega) (fun q564 => ?_) (fun q564 => ?_)
                  · -- taken: 221
                    refine lv_iconst (v := nI 2) hx hb d_p15m16_221 (by decide) ?_
                    refine pd_put (ty := .int) X w f535 hz_y rfl 39 (by decide) mT_1178 rfl rfl (by decide +kernel) rfl rfl (Nat.le_of_ble_eq_true rfl) d_p15m16_222 (fun H locs w => ?_)
                    have w : pd_w G s H locs (pd_up h533 y (20, .inr (10, [.ref (ad 0), .ref (ad 1), .ref (ad 2), .int (iv 3), .int (iv 4), .int (iv 5), .ref (ad 6), .ref (ad 7), .ref (ad 8), .ref (ad 9), .ref (ad 10), .ref (ad 11), .int (iv 12), .ref (ad 13), .ref (ad 14), .ref (ad 15), .ref (ad 16), .ref (ad 17), .ref (ad 18), .ref (ad 19), .int (iv 20), .ref (ad 21), .ref (ad 22), .ref (ad 23), .ref (ad 24), .ref (ad 25), .ref (ad 26), .ref (ad 27), .ref (ad 28), .int (iv 29), .ref (ad 30), .ref (ad 31), .int (iv 32), .int (iv 33), .int (iv 34), .int (iv 35), .long tl, .int (nI 0), .int (nI (gm_name cs (sA i0) (eA i0))), .int (nI 2), .int (nI (eA i0)), .ref (ad 41), .ref (ad 42), .int (iv 43)]))) := w
                    obtain ⟨h565, u568⟩ : ∃ z, z = pd_up h533 y (20, .inr (10, [.ref (ad 0), .ref (ad 1), .ref (ad 2), .int (iv 3), .int (iv 4), .int (iv 5), .ref (ad 6), .ref (ad 7), .ref (ad 8), .ref (ad 9), .ref (ad 10), .ref (ad 11), .int (iv 12), .ref (ad 13), .ref (ad 14), .ref (ad 15), .ref (ad 16), .ref (ad 17), .ref (ad 18), .ref (ad 19), .int (iv 20), .ref (ad 21), .ref (ad 22), .ref (ad 23), .ref (ad 24), .ref (ad 25), .ref (ad 26), .ref (ad 27), .ref (ad 28), .int (iv 29), .ref (ad 30), .ref (ad 31), .int (iv 32), .int (iv 33), .int (iv 34), .int (iv 35), .long tl, .int (nI 0), .int (nI (gm_name cs (sA i0) (eA i0))), .int (nI 2), .int (nI (eA i0)), .ref (ad 41), .ref (ad 42), .int (iv 43)])) := ⟨_, rfl⟩
                    rw [← u568] at w
                    have k566 : pd_kq y h533 h565 := by rw [u568]; exact pd_up_kq
                    have f567 : h565 y = some (20, .inr (10, [.ref (ad 0), .ref (ad 1), .ref (ad 2), .int (iv 3), .int (iv 4), .int (iv 5), .ref (ad 6), .ref (ad 7), .ref (ad 8), .ref (ad 9), .ref (ad 10), .ref (ad 11), .int (iv 12), .ref (ad 13), .ref (ad 14), .ref (ad 15), .ref (ad 16), .ref (ad 17), .ref (ad 18), .ref (ad 19), .int (iv 20), .ref (ad 21), .ref (ad 22), .ref (ad 23), .ref (ad 24), .ref (ad 25), .ref (ad 26), .ref (ad 27), .ref (ad 28), .int (iv 29), .ref (ad 30), .ref (ad 31), .int (iv 32), .int (iv 33), .int (iv 34), .int (iv 35), .long tl, .int (nI 0), .int (nI (gm_name cs (sA i0) (eA i0))), .int (nI 2), .int (nI (eA i0)), .ref (ad 41), .ref (ad 42), .int (iv 43)])) := by rw [u568]; exact pd_up_s _ _ _
                    have f569 := k566 _ _ (pd_ne f537 f535 (by simp)) f537
                    have f570 := k566 _ _ (pd_ne f538 f535 (by simp)) f538
                    have f571 := k566 _ _ (pd_ne f539 f535 (by simp)) f539
                    refine lv_aload_n hx hb d_p15m16_225 rfl (lv_at hl 2 rfl) ?_
                    refine lv_iload_n hx hb d_p15m16_226 rfl (lv_at hl 0 rfl) ?_
                    refine lv_iconst (v := nI 1) hx hb d_p15m16_227 (by decide) ?_
                    refine pd_iadd hx hb d_p15m16_228 ?_
                    refine pd_put (ty := .int) X w f567 hz_y rfl 40 (by decide) mT_1179 rfl rfl (by decide +kernel) rfl rfl (Nat.le_of_ble_eq_true rfl) d_p15m16_229 (fun H locs w => ?_)
                    have w : pd_w G s H locs (pd_up h565 y (20, .inr (10, [.ref (ad 0), .ref (ad 1), .ref (ad 2), .int (iv 3), .int (iv 4), .int (iv 5), .ref (ad 6), .ref (ad 7), .ref (ad 8), .ref (ad 9), .ref (ad 10), .ref (ad 11), .int (iv 12), .ref (ad 13), .ref (ad 14), .ref (ad 15), .ref (ad 16), .ref (ad 17), .ref (ad 18), .ref (ad 19), .int (iv 20), .ref (ad 21), .ref (ad 22), .ref (ad 23), .ref (ad 24), .ref (ad 25), .ref (ad 26), .ref (ad 27), .ref (ad 28), .int (iv 29), .ref (ad 30), .ref (ad 31), .int (iv 32), .int (iv 33), .int (iv 34), .int (iv 35), .long tl, .int (nI 0), .int (nI (gm_name cs (sA i0) (eA i0))), .int (nI 2), .int (nI ((gm_name cs (sA i0) (eA i0)) + 1)), .ref (ad 41), .ref (ad 42), .int (iv 43)]))) := w
                    obtain ⟨h572, u575⟩ : ∃ z, z = pd_up h565 y (20, .inr (10, [.ref (ad 0), .ref (ad 1), .ref (ad 2), .int (iv 3), .int (iv 4), .int (iv 5), .ref (ad 6), .ref (ad 7), .ref (ad 8), .ref (ad 9), .ref (ad 10), .ref (ad 11), .int (iv 12), .ref (ad 13), .ref (ad 14), .ref (ad 15), .ref (ad 16), .ref (ad 17), .ref (ad 18), .ref (ad 19), .int (iv 20), .ref (ad 21), .ref (ad 22), .ref (ad 23), .ref (ad 24), .ref (ad 25), .ref (ad 26), .ref (ad 27), .ref (ad 28), .int (iv 29), .ref (ad 30), .ref (ad 31), .int (iv 32), .int (iv 33), .int (iv 34), .int (iv 35), .long tl, .int (nI 0), .int (nI (gm_name cs (sA i0) (eA i0))), .int (nI 2), .int (nI ((gm_name cs (sA i0) (eA i0)) + 1)), .ref (ad 41), .ref (ad 42), .int (iv 43)])) := ⟨_, rfl⟩
                    rw [← u575] at w
                    have k573 : pd_kq y h565 h572 := by rw [u575]; exact pd_up_kq
                    have f574 : h572 y = some (20, .inr (10, [.ref (ad 0), .ref (ad 1), .ref (ad 2), .int (iv 3), .int (iv 4), .int (iv 5), .ref (ad 6), .ref (ad 7), .ref (ad 8), .ref (ad 9), .ref (ad 10), .ref (ad 11), .int (iv 12), .ref (ad 13), .ref (ad 14), .ref (ad 15), .ref (ad 16), .ref (ad 17), .ref (ad 18), .ref (ad 19), .int (iv 20), .ref (ad 21), .ref (ad 22), .ref (ad 23), .ref (ad 24), .ref (ad 25), .ref (ad 26), .ref (ad 27), .ref (ad 28), .int (iv 29), .ref (ad 30), .ref (ad 31), .int (iv 32), .int (iv 33), .int (iv 34), .int (iv 35), .long tl, .int (nI 0), .int (nI (gm_name cs (sA i0) (eA i0))), .int (nI 2), .int (nI ((gm_name cs (sA i0) (eA i0)) + 1)), .ref (ad 41), .ref (ad 42), .int (iv 43)])) := by rw [u575]; exact pd_up_s _ _ _
                    have f576 := k573 _ _ (pd_ne f569 f567 (by simp)) f569
                    have f577 := k573 _ _ (pd_ne f570 f567 (by simp)) f570
                    have f578 := k573 _ _ (pd_ne f571 f567 (by simp)) f571
                    refine lv_aload_n hx hb d_p15m16_232 rfl (lv_at hl 2 rfl) ?_
                    refine pd_get X w f574 rfl 39 (by decide) mT_1178 rfl rfl d_p15m16_233 ?_
                    refine lv_iconst (v := nI 1) hx hb d_p15m16_236 (by decide) ?_
                    refine pd_jeq (tgt := 252) hx hb d_p15m16_237 (by decide) (by decide) (by decide) (fun q => absurd q (by decide)) (fun _ => ?_)
                    refine lv_aload_n hx hb d_p15m16_240 rfl (lv_at hl 2 rfl) ?_
                    refine lv_iload_n hx hb d_p15m16_241 rfl (lv_at hl 0 rfl) ?_
                    refine lv_iconst (v := nI 1) hx hb d_p15m16_242 (by decide) ?_
                    refine pd_iadd hx hb d_p15m16_243 ?_
                    refine lv_iload_n hx hb d_p15m16_244 rfl (lv_at hl 1 rfl) ?_
                    refine pd_cV (a := y) (As := [.int (nI ((gm_name cs (sA i0) (eA i0)) + 1)), .int (nI (eA i0))]) (rest := []) X w f574 rfl (c_PolicyDeskModel_behindPart l G h572 (ad := ad) (fv := fv) (iv := pd_fu (pd_fu (pd_fu (pd_fu iv 37 (nI 0)) 38 (nI (gm_name cs (sA i0) (eA i0)))) 39 (nI 2)) 40 (nI ((gm_name cs (sA i0) (eA i0)) + 1))) (tl := tl) (pd_MO.of (fv2 := fv) (iv2 := pd_fu (pd_fu (pd_fu (pd_fu iv 37 (nI 0)) 38 (nI (gm_name cs (sA i0) (eA i0)))) 39 (nI 2)) 40 (nI ((gm_name cs (sA i0) (eA i0)) + 1))) (tl2 := tl) (ts := [20]) hMO (pd_kx.tr (pd_kx.tr (pd_kx.tr (pd_kx.tr (pd_kx.tr (pd_kx.tr (pd_kx.tr (pd_kq.kx (k2) hy0) (pd_kq.kx (k9) f3)) (pd_kq.kx (k512) f10)) (pd_kq.kx (k519) f513)) (pd_kq.kx (k527) f520)) (pd_kq.kx (k534) f528)) (pd_kq.kx (k566) f535)) (pd_kq.kx (k573) f567)) f574 (fun j hj => Or.inr ⟨fun z => by first | (simp at z; done) | (simp at z; omega), rfl⟩)) hL (by omega) (by omega)) ok_PolicyDeskModel_behindPart ⟨mT_1315, sT_19⟩ mT_1313 ⟨by decide, by decide⟩ rfl hl.1 rfl (Nat.le_of_ble_eq_true rfl) d_p15m16_245 ⟨by decide, by decide⟩ (fun r580 h581 H locs hp582 w => ?_)
                    refine W.widen (k := 0) (n := 0) (by decide) (by decide) ?_
                    obtain ⟨e583, rfl⟩ := hp582
                    have hpl := gm_part_le (cs := cs) (x := gm_name cs (sA i0) (eA i0) + 1) (to := eA i0) (by omega)
                    refine lv_iload_n hx hb d_p15m16_248 rfl (lv_at hl 1 rfl) ?_
                    refine pd_jne (tgt := 256) hx hb d_p15m16_249 (by decide) (by omega) (by omega) (fun q584 => ?_) (fun q584 => ?_)
                    · -- taken: 256
                      refine lv_iconst (v := nI 0) hx hb d_p15m16_256 (by decide) ?_
                      have hpt : gm_pt cs (gm_name cs (sA i0) (eA i0)) (eA i0) = none := by unfold gm_pt; rw [if_neg (by omega), if_neg (by omega), if_neg (by omega), if_neg (by rw [← e583]; omega)]
                      have hp : gm_pat cs (sA i0) (eA i0) = none := by unfold gm_pat; rw [hph]; simp only [hpt]
                      refine W.eq (g2 := F0 m 257 ls [.int (pd_b false)]) rfl ?_
                      exact pd_zret (v := false) X w ⟨by rw [hp]; rfl, pd_kx.tr (pd_kx.tr (pd_kx.tr (pd_kx.tr (pd_kx.tr (pd_kx.tr (pd_kx.tr (pd_kq.kx (k2) hy0) (pd_kq.kx (k9) f3)) (pd_kq.kx (k512) f10)) (pd_kq.kx (k519) f513)) (pd_kq.kx (k527) f520)) (pd_kq.kx (k534) f528)) (pd_kq.kx (k566) f535)) (pd_kq.kx (k573) f567), (nI 0), (nI (gm_name cs (sA i0) (eA i0))), (nI 2), (nI ((gm_name cs (sA i0) (eA i0)) + 1)), (pd_MO.of (fv2 := fv) (iv2 := pd_fu (pd_fu (pd_fu (pd_fu iv 37 (nI 0)) 38 (nI (gm_name cs (sA i0) (eA i0)))) 39 (nI 2)) 40 (nI ((gm_name cs (sA i0) (eA i0)) + 1))) (tl2 := tl) (ts := [20]) hMO (pd_kx.tr (pd_kx.tr (pd_kx.tr (pd_kx.tr (pd_kx.tr (pd_kx.tr (pd_kx.tr (pd_kq.kx (k2) hy0) (pd_kq.kx (k9) f3)) (pd_kq.kx (k512) f10)) (pd_kq.kx (k519) f513)) (pd_kq.kx (k527) f520)) (pd_kq.kx (k534) f528)) (pd_kq.kx (k566) f535)) (pd_kq.kx (k573) f567)) f574 (fun j hj => Or.inr ⟨fun z => by first | (simp at z; done) | (simp at z; omega), rfl⟩)), fun t9 ht9 => by rw [hp] at ht9; cases ht9⟩ (by decide) (by decide) d_p15m16_257
                    · -- not taken: 252
                      refine lv_iconst (v := nI 1) hx hb d_p15m16_252 (by decide) ?_
                      refine lv_goto (tgt := 257) hx hb d_p15m16_253 (by decide) ?_
                      have hpt : gm_pt cs (gm_name cs (sA i0) (eA i0)) (eA i0) = some (2, gm_name cs (sA i0) (eA i0) + 1) := by unfold gm_pt; rw [if_neg (by omega), if_neg (by omega), if_neg (by omega), if_pos (by rw [← e583]; omega)]
                      have hp : gm_pat cs (sA i0) (eA i0) = some (0, gm_name cs (sA i0) (eA i0), 2, gm_name cs (sA i0) (eA i0) + 1) := by unfold gm_pat; rw [hph]; simp only [hpt]
                      refine W.eq (g2 := F0 m 257 ls [.int (pd_b true)]) rfl ?_
                      exact pd_zret (v := true) X w ⟨by rw [hp]; rfl, pd_kx.tr (pd_kx.tr (pd_kx.tr (pd_kx.tr (pd_kx.tr (pd_kx.tr (pd_kx.tr (pd_kq.kx (k2) hy0) (pd_kq.kx (k9) f3)) (pd_kq.kx (k512) f10)) (pd_kq.kx (k519) f513)) (pd_kq.kx (k527) f520)) (pd_kq.kx (k534) f528)) (pd_kq.kx (k566) f535)) (pd_kq.kx (k573) f567), (nI 0), (nI (gm_name cs (sA i0) (eA i0))), (nI 2), (nI ((gm_name cs (sA i0) (eA i0)) + 1)), (pd_MO.of (fv2 := fv) (iv2 := pd_fu (pd_fu (pd_fu (pd_fu iv 37 (nI 0)) 38 (nI (gm_name cs (sA i0) (eA i0)))) 39 (nI 2)) 40 (nI ((gm_name cs (sA i0) (eA i0)) + 1))) (tl2 := tl) (ts := [20]) hMO (pd_kx.tr (pd_kx.tr (pd_kx.tr (pd_kx.tr (pd_kx.tr (pd_kx.tr (pd_kx.tr (pd_kq.kx (k2) hy0) (pd_kq.kx (k9) f3)) (pd_kq.kx (k512) f10)) (pd_kq.kx (k519) f513)) (pd_kq.kx (k527) f520)) (pd_kq.kx (k534) f528)) (pd_kq.kx (k566) f535)) (pd_kq.kx (k573) f567)) f574 (fun j hj => Or.inr ⟨fun z => by first | (simp at z; done) | (simp at z; omega), rfl⟩)), fun t9 ht9 => by rw [hp] at ht9; cases ht9; exact ⟨rfl, rfl, rfl, rfl⟩⟩ (by decide) (by decide) d_p15m16_257
                  · -- not taken: 217
                    refine lv_iconst (v := nI 1) hx hb d_p15m16_217 (by decide) ?_
                    refine lv_goto (tgt := 222) hx hb d_p15m16_218 (by decide) ?_
                    refine pd_put (ty := .int) X w f535 hz_y rfl 39 (by decide) mT_1178 rfl rfl (by decide +kernel) rfl rfl (Nat.le_of_ble_eq_true rfl) d_p15m16_222 (fun H locs w => ?_)
                    have w : pd_w G s H locs (pd_up h533 y (20, .inr (10, [.ref (ad 0), .ref (ad 1), .ref (ad 2), .int (iv 3), .int (iv 4), .int (iv 5), .ref (ad 6), .ref (ad 7), .ref (ad 8), .ref (ad 9), .ref (ad 10), .ref (ad 11), .int (iv 12), .ref (ad 13), .ref (ad 14), .ref (ad 15), .ref (ad 16), .ref (ad 17), .ref (ad 18), .ref (ad 19), .int (iv 20), .ref (ad 21), .ref (ad 22), .ref (ad 23), .ref (ad 24), .ref (ad 25), .ref (ad 26), .ref (ad 27), .ref (ad 28), .int (iv 29), .ref (ad 30), .ref (ad 31), .int (iv 32), .int (iv 33), .int (iv 34), .int (iv 35), .long tl, .int (nI 0), .int (nI (gm_name cs (sA i0) (eA i0))), .int (nI 1), .int (nI (eA i0)), .ref (ad 41), .ref (ad 42), .int (iv 43)]))) := w
                    obtain ⟨h585, u588⟩ : ∃ z, z = pd_up h533 y (20, .inr (10, [.ref (ad 0), .ref (ad 1), .ref (ad 2), .int (iv 3), .int (iv 4), .int (iv 5), .ref (ad 6), .ref (ad 7), .ref (ad 8), .ref (ad 9), .ref (ad 10), .ref (ad 11), .int (iv 12), .ref (ad 13), .ref (ad 14), .ref (ad 15), .ref (ad 16), .ref (ad 17), .ref (ad 18), .ref (ad 19), .int (iv 20), .ref (ad 21), .ref (ad 22), .ref (ad 23), .ref (ad 24), .ref (ad 25), .ref (ad 26), .ref (ad 27), .ref (ad 28), .int (iv 29), .ref (ad 30), .ref (ad 31), .int (iv 32), .int (iv 33), .int (iv 34), .int (iv 35), .long tl, .int (nI 0), .int (nI (gm_name cs (sA i0) (eA i0))), .int (nI 1), .int (nI (eA i0)), .ref (ad 41), .ref (ad 42), .int (iv 43)])) := ⟨_, rfl⟩
                    rw [← u588] at w
                    have k586 : pd_kq y h533 h585 := by rw [u588]; exact pd_up_kq
                    have f587 : h585 y = some (20, .inr (10, [.ref (ad 0), .ref (ad 1), .ref (ad 2), .int (iv 3), .int (iv 4), .int (iv 5), .ref (ad 6), .ref (ad 7), .ref (ad 8), .ref (ad 9), .ref (ad 10), .ref (ad 11), .int (iv 12), .ref (ad 13), .ref (ad 14), .ref (ad 15), .ref (ad 16), .ref (ad 17), .ref (ad 18), .ref (ad 19), .int (iv 20), .ref (ad 21), .ref (ad 22), .ref (ad 23), .ref (ad 24), .ref (ad 25), .ref (ad 26), .ref (ad 27), .ref (ad 28), .int (iv 29), .ref (ad 30), .ref (ad 31), .int (iv 32), .int (iv 33), .int (iv 34), .int (iv 35), .long tl, .int (nI 0), .int (nI (gm_name cs (sA i0) (eA i0))), .int (nI 1), .int (nI (eA i0)), .ref (ad 41), .ref (ad 42), .int (iv 43)])) := by rw [u588]; exact pd_up_s _ _ _
                    have f589 := k586 _ _ (pd_ne f537 f535 (by simp)) f537
                    have f590 := k586 _ _ (pd_ne f538 f535 (by simp)) f538
                    have f591 := k586 _ _ (pd_ne f539 f535 (by simp)) f539
                    refine lv_aload_n hx hb d_p15m16_225 rfl (lv_at hl 2 rfl) ?_
                    refine lv_iload_n hx hb d_p15m16_226 rfl (lv_at hl 0 rfl) ?_
                    refine lv_iconst (v := nI 1) hx hb d_p15m16_227 (by decide) ?_
                    refine pd_iadd hx hb d_p15m16_228 ?_
                    refine pd_put (ty := .int) X w f587 hz_y rfl 40 (by decide) mT_1179 rfl rfl (by decide +kernel) rfl rfl (Nat.le_of_ble_eq_true rfl) d_p15m16_229 (fun H locs w => ?_)
                    have w : pd_w G s H locs (pd_up h585 y (20, .inr (10, [.ref (ad 0), .ref (ad 1), .ref (ad 2), .int (iv 3), .int (iv 4), .int (iv 5), .ref (ad 6), .ref (ad 7), .ref (ad 8), .ref (ad 9), .ref (ad 10), .ref (ad 11), .int (iv 12), .ref (ad 13), .ref (ad 14), .ref (ad 15), .ref (ad 16), .ref (ad 17), .ref (ad 18), .ref (ad 19), .int (iv 20), .ref (ad 21), .ref (ad 22), .ref (ad 23), .ref (ad 24), .ref (ad 25), .ref (ad 26), .ref (ad 27), .ref (ad 28), .int (iv 29), .ref (ad 30), .ref (ad 31), .int (iv 32), .int (iv 33), .int (iv 34), .int (iv 35), .long tl, .int (nI 0), .int (nI (gm_name cs (sA i0) (eA i0))), .int (nI 1), .int (nI ((gm_name cs (sA i0) (eA i0)) + 1)), .ref (ad 41), .ref (ad 42), .int (iv 43)]))) := w
                    obtain ⟨h592, u595⟩ : ∃ z, z = pd_up h585 y (20, .inr (10, [.ref (ad 0), .ref (ad 1), .ref (ad 2), .int (iv 3), .int (iv 4), .int (iv 5), .ref (ad 6), .ref (ad 7), .ref (ad 8), .ref (ad 9), .ref (ad 10), .ref (ad 11), .int (iv 12), .ref (ad 13), .ref (ad 14), .ref (ad 15), .ref (ad 16), .ref (ad 17), .ref (ad 18), .ref (ad 19), .int (iv 20), .ref (ad 21), .ref (ad 22), .ref (ad 23), .ref (ad 24), .ref (ad 25), .ref (ad 26), .ref (ad 27), .ref (ad 28), .int (iv 29), .ref (ad 30), .ref (ad 31), .int (iv 32), .int (iv 33), .int (iv 34), .int (iv 35), .long tl, .int (nI 0), .int (nI (gm_name cs (sA i0) (eA i0))), .int (nI 1), .int (nI ((gm_name cs (sA i0) (eA i0)) + 1)), .ref (ad 41), .ref (ad 42), .int (iv 43)])) := ⟨_, rfl⟩
                    rw [← u595] at w
                    have k593 : pd_kq y h585 h592 := by rw [u595]; exact pd_up_kq
                    have f594 : h592 y = some (20, .inr (10, [.ref (ad 0), .ref (ad 1), .ref (ad 2), .int (iv 3), .int (iv 4), .int (iv 5), .ref (ad 6), .ref (ad 7), .ref (ad 8), .ref (ad 9), .ref (ad 10), .ref (ad 11), .int (iv 12), .ref (ad 13), .ref (ad 14), .ref (ad 15), .ref (ad 16), .ref (ad 17), .ref (ad 18), .ref (ad 19), .int (iv 20), .ref (ad 21), .ref (ad 22), .ref (ad 23), .ref (ad 24), .ref (ad 25), .ref (ad 26), .ref (ad 27), .ref (ad 28), .int (iv 29), .ref (ad 30), .ref (ad 31), .int (iv 32), .int (iv 33), .int (iv 34), .int (iv 35), .long tl, .int (nI 0), .int (nI (gm_name cs (sA i0) (eA i0))), .int (nI 1), .int (nI ((gm_name cs (sA i0) (eA i0)) + 1)), .ref (ad 41), .ref (ad 42), .int (iv 43)])) := by rw [u595]; exact pd_up_s _ _ _
                    have f596 := k593 _ _ (pd_ne f589 f587 (by simp)) f589
                    have f597 := k593 _ _ (pd_ne f590 f587 (by simp)) f590
                    have f598 := k593 _ _ (pd_ne f591 f587 (by simp)) f591
                    refine lv_aload_n hx hb d_p15m16_232 rfl (lv_at hl 2 rfl) ?_
                    refine pd_get X w f594 rfl 39 (by decide) mT_1178 rfl rfl d_p15m16_233 ?_
                    refine lv_iconst (v := nI 1) hx hb d_p15m16_236 (by decide) ?_
                    refine pd_jeq (tgt := 252) hx hb d_p15m16_237 (by decide) (by decide) (by decide) (fun _ => ?_) (fun q => absurd q (by decide))
                    refine lv_iconst (v := nI 1) hx hb d_p15m16_252 (by decide) ?_
                    refine lv_goto (tgt := 257) hx hb d_p15m16_253 (by decide) ?_
                    have hpt : gm_pt cs (gm_name cs (sA i0) (eA i0)) (eA i0) = some (1, gm_name cs (sA i0) (eA i0) + 1) := by unfold gm_pt; rw [if_neg (by omega), if_neg (by omega), if_pos (by omega)]
                    have hp : gm_pat cs (sA i0) (eA i0) = some (0, gm_name cs (sA i0) (eA i0), 1, gm_name cs (sA i0) (eA i0) + 1) := by unfold gm_pat; rw [hph]; simp only [hpt]
                    refine W.eq (g2 := F0 m 257 ls [.int (pd_b true)]) rfl ?_
                    exact pd_zret (v := true) X w ⟨by rw [hp]; rfl, pd_kx.tr (pd_kx.tr (pd_kx.tr (pd_kx.tr (pd_kx.tr (pd_kx.tr (pd_kx.tr (pd_kq.kx (k2) hy0) (pd_kq.kx (k9) f3)) (pd_kq.kx (k512) f10)) (pd_kq.kx (k519) f513)) (pd_kq.kx (k527) f520)) (pd_kq.kx (k534) f528)) (pd_kq.kx (k586) f535)) (pd_kq.kx (k593) f587), (nI 0), (nI (gm_name cs (sA i0) (eA i0))), (nI 1), (nI ((gm_name cs (sA i0) (eA i0)) + 1)), (pd_MO.of (fv2 := fv) (iv2 := pd_fu (pd_fu (pd_fu (pd_fu iv 37 (nI 0)) 38 (nI (gm_name cs (sA i0) (eA i0)))) 39 (nI 1)) 40 (nI ((gm_name cs (sA i0) (eA i0)) + 1))) (tl2 := tl) (ts := [20]) hMO (pd_kx.tr (pd_kx.tr (pd_kx.tr (pd_kx.tr (pd_kx.tr (pd_kx.tr (pd_kx.tr (pd_kq.kx (k2) hy0) (pd_kq.kx (k9) f3)) (pd_kq.kx (k512) f10)) (pd_kq.kx (k519) f513)) (pd_kq.kx (k527) f520)) (pd_kq.kx (k534) f528)) (pd_kq.kx (k586) f535)) (pd_kq.kx (k593) f587)) f594 (fun j hj => Or.inr ⟨fun z => by first | (simp at z; done) | (simp at z; omega), rfl⟩)), fun t9 ht9 => by rw [hp] at ht9; cases ht9; exact ⟨rfl, rfl, rfl, rfl⟩⟩ (by decide) (by decide) d_p15m16_257
              · -- not taken: 194
                refine lv_iconst (v := nI 0) hx hb d_p15m16_194 (by decide) ?_
                have hpt : gm_pt cs (gm_name cs (sA i0) (eA i0)) (eA i0) = none := by unfold gm_pt; rw [if_neg (by omega), if_pos (by omega)]
                have hp : gm_pat cs (sA i0) (eA i0) = none := by unfold gm_pat; rw [hph]; simp only [hpt]
                refine W.eq (g2 := F0 m 195 ls [.int (pd_b false)]) rfl ?_
                exact pd_zret (v := false) X w ⟨by rw [hp]; rfl, pd_kx.tr (pd_kx.tr (pd_kx.tr (pd_kx.tr (pd_kx.tr (pd_kq.kx (k2) hy0) (pd_kq.kx (k9) f3)) (pd_kq.kx (k512) f10)) (pd_kq.kx (k519) f513)) (pd_kq.kx (k527) f520)) (pd_kq.kx (k534) f528), (nI 0), (nI (gm_name cs (sA i0) (eA i0))), (nI 0), (nI (eA i0)), (pd_MO.of (fv2 := fv) (iv2 := pd_fu (pd_fu (pd_fu (pd_fu iv 37 (nI 0)) 38 (nI (gm_name cs (sA i0) (eA i0)))) 39 (nI 0)) 40 (nI (eA i0))) (tl2 := tl) (ts := [20]) hMO (pd_kx.tr (pd_kx.tr (pd_kx.tr (pd_kx.tr (pd_kx.tr (pd_kq.kx (k2) hy0) (pd_kq.kx (k9) f3)) (pd_kq.kx (k512) f10)) (pd_kq.kx (k519) f513)) (pd_kq.kx (k527) f520)) (pd_kq.kx (k534) f528)) f535 (fun j hj => Or.inr ⟨fun z => by first | (simp at z; done) | (simp at z; omega), rfl⟩)), fun t9 ht9 => by rw [hp] at ht9; cases ht9⟩ (by decide) (by decide) d_p15m16_195
          · -- not taken: 174
            refine lv_iconst (v := nI 1) hx hb d_p15m16_174 (by decide) ?_
            have hpt : gm_pt cs (gm_name cs (sA i0) (eA i0)) (eA i0) = some (0, eA i0) := by unfold gm_pt; rw [if_pos (by omega)]
            have hp : gm_pat cs (sA i0) (eA i0) = some (0, gm_name cs (sA i0) (eA i0), 0, eA i0) := by unfold gm_pat; rw [hph]; simp only [hpt]
            refine W.eq (g2 := F0 m 175 ls [.int (pd_b true)]) rfl ?_
            exact pd_zret (v := true) X w ⟨by rw [hp]; rfl, pd_kx.tr (pd_kx.tr (pd_kx.tr (pd_kx.tr (pd_kx.tr (pd_kq.kx (k2) hy0) (pd_kq.kx (k9) f3)) (pd_kq.kx (k512) f10)) (pd_kq.kx (k519) f513)) (pd_kq.kx (k527) f520)) (pd_kq.kx (k534) f528), (nI 0), (nI (gm_name cs (sA i0) (eA i0))), (nI 0), (nI (eA i0)), (pd_MO.of (fv2 := fv) (iv2 := pd_fu (pd_fu (pd_fu (pd_fu iv 37 (nI 0)) 38 (nI (gm_name cs (sA i0) (eA i0)))) 39 (nI 0)) 40 (nI (eA i0))) (tl2 := tl) (ts := [20]) hMO (pd_kx.tr (pd_kx.tr (pd_kx.tr (pd_kx.tr (pd_kx.tr (pd_kq.kx (k2) hy0) (pd_kq.kx (k9) f3)) (pd_kq.kx (k512) f10)) (pd_kq.kx (k519) f513)) (pd_kq.kx (k527) f520)) (pd_kq.kx (k534) f528)) f535 (fun j hj => Or.inr ⟨fun z => by first | (simp at z; done) | (simp at z; omega), rfl⟩)), fun t9 ht9 => by rw [hp] at ht9; cases ht9; exact ⟨rfl, rfl, rfl, rfl⟩⟩ (by decide) (by decide) d_p15m16_175
        · -- not taken: 97
          refine lv_aload_n hx hb d_p15m16_97 rfl (lv_at hl 2 rfl) ?_
          refine pd_get X w f520 rfl 0 (by decide) mT_1139 rfl rfl d_p15m16_98 ?_
          refine lv_iload_n hx hb d_p15m16_101 rfl (lv_at hl 0 rfl) ?_
          refine pd_iald X w f522 (by omega) (by omega) d_p15m16_102 ?_
          refine pd_top (v' := .int (nI (cs.getD (gm_name cs (sA i0) (eA i0)) 0))) (congrArg Value.int (hln _ (by omega))) ?_
          have := tx_lt hlc (gm_name cs (sA i0) (eA i0))
          refine lv_bipush (v := nI 47) hx hb d_p15m16_103 (by decide) ?_
          refine pd_jne (tgt := 159) hx hb d_p15m16_105 (by decide) (by omega) (by omega) (fun q600 => ?_) (fun q600 => ?_)
          · -- taken: 159
            have hph : gm_ph cs (sA i0) (eA i0) = some (0, gm_name cs (sA i0) (eA i0), gm_name cs (sA i0) (eA i0)) := by unfold gm_ph; rw [if_neg (by omega), if_neg (by omega), if_neg (by omega)]
            refine lv_aload_n hx hb d_p15m16_159 rfl (lv_at hl 2 rfl) ?_
            refine lv_iconst (v := nI 0) hx hb d_p15m16_160 (by decide) ?_
            refine pd_put (ty := .int) X w f520 hz_y rfl 39 (by decide) mT_1178 rfl rfl (by decide +kernel) rfl rfl (Nat.le_of_ble_eq_true rfl) d_p15m16_161 (fun H locs w => ?_)
            have w : pd_w G s H locs (pd_up h518 y (20, .inr (10, [.ref (ad 0), .ref (ad 1), .ref (ad 2), .int (iv 3), .int (iv 4), .int (iv 5), .ref (ad 6), .ref (ad 7), .ref (ad 8), .ref (ad 9), .ref (ad 10), .ref (ad 11), .int (iv 12), .ref (ad 13), .ref (ad 14), .ref (ad 15), .ref (ad 16), .ref (ad 17), .ref (ad 18), .ref (ad 19), .int (iv 20), .ref (ad 21), .ref (ad 22), .ref (ad 23), .ref (ad 24), .ref (ad 25), .ref (ad 26), .ref (ad 27), .ref (ad 28), .int (iv 29), .ref (ad 30), .ref (ad 31), .int (iv 32), .int (iv 33), .int (iv 34), .int (iv 35), .long tl, .int (nI 0), .int (nI (gm_name cs (sA i0) (eA i0))), .int (nI 0), .int (iv 40), .ref (ad 41), .ref (ad 42), .int (iv 43)]))) := w
            obtain ⟨h601, u604⟩ : ∃ z, z = pd_up h518 y (20, .inr (10, [.ref (ad 0), .ref (ad 1), .ref (ad 2), .int (iv 3), .int (iv 4), .int (iv 5), .ref (ad 6), .ref (ad 7), .ref (ad 8), .ref (ad 9), .ref (ad 10), .ref (ad 11), .int (iv 12), .ref (ad 13), .ref (ad 14), .ref (ad 15), .ref (ad 16), .ref (ad 17), .ref (ad 18), .ref (ad 19), .int (iv 20), .ref (ad 21), .ref (ad 22), .ref (ad 23), .ref (ad 24), .ref (ad 25), .ref (ad 26), .ref (ad 27), .ref (ad 28), .int (iv 29), .ref (ad 30), .ref (ad 31), .int (iv 32), .int (iv 33), .int (iv 34), .int (iv 35), .long tl, .int (nI 0), .int (nI (gm_name cs (sA i0) (eA i0))), .int (nI 0), .int (iv 40), .ref (ad 41), .ref (ad 42), .int (iv 43)])) := ⟨_, rfl⟩
            rw [← u604] at w
            have k602 : pd_kq y h518 h601 := by rw [u604]; exact pd_up_kq
            have f603 : h601 y = some (20, .inr (10, [.ref (ad 0), .ref (ad 1), .ref (ad 2), .int (iv 3), .int (iv 4), .int (iv 5), .ref (ad 6), .ref (ad 7), .ref (ad 8), .ref (ad 9), .ref (ad 10), .ref (ad 11), .int (iv 12), .ref (ad 13), .ref (ad 14), .ref (ad 15), .ref (ad 16), .ref (ad 17), .ref (ad 18), .ref (ad 19), .int (iv 20), .ref (ad 21), .ref (ad 22), .ref (ad 23), .ref (ad 24), .ref (ad 25), .ref (ad 26), .ref (ad 27), .ref (ad 28), .int (iv 29), .ref (ad 30), .ref (ad 31), .int (iv 32), .int (iv 33), .int (iv 34), .int (iv 35), .long tl, .int (nI 0), .int (nI (gm_name cs (sA i0) (eA i0))), .int (nI 0), .int (iv 40), .ref (ad 41), .ref (ad 42), .int (iv 43)])) := by rw [u604]; exact pd_up_s _ _ _
            have f605 := k602 _ _ (pd_ne f522 f520 (by simp)) f522
            have f606 := k602 _ _ (pd_ne f523 f520 (by simp)) f523
            have f607 := k602 _ _ (pd_ne f524 f520 (by simp)) f524
            refine lv_aload_n hx hb d_p15m16_164 rfl (lv_at hl 2 rfl) ?_
            refine lv_iload_n hx hb d_p15m16_165 rfl (lv_at hl 1 rfl) ?_
            refine pd_put (ty := .int) X w f603 hz_y rfl 40 (by decide) mT_1179 rfl rfl (by decide +kernel) rfl rfl (Nat.le_of_ble_eq_true rfl) d_p15m16_166 (fun H locs w => ?_)
            have w : pd_w G s H locs (pd_up h601 y (20, .inr (10, [.ref (ad 0), .ref (ad 1), .ref (ad 2), .int (iv 3), .int (iv 4), .int (iv 5), .ref (ad 6), .ref (ad 7), .ref (ad 8), .ref (ad 9), .ref (ad 10), .ref (ad 11), .int (iv 12), .ref (ad 13), .ref (ad 14), .ref (ad 15), .ref (ad 16), .ref (ad 17), .ref (ad 18), .ref (ad 19), .int (iv 20), .ref (ad 21), .ref (ad 22), .ref (ad 23), .ref (ad 24), .ref (ad 25), .ref (ad 26), .ref (ad 27), .ref (ad 28), .int (iv 29), .ref (ad 30), .ref (ad 31), .int (iv 32), .int (iv 33), .int (iv 34), .int (iv 35), .long tl, .int (nI 0), .int (nI (gm_name cs (sA i0) (eA i0))), .int (nI 0), .int (nI (eA i0)), .ref (ad 41), .ref (ad 42), .int (iv 43)]))) := w
            obtain ⟨h608, u611⟩ : ∃ z, z = pd_up h601 y (20, .inr (10, [.ref (ad 0), .ref (ad 1), .ref (ad 2), .int (iv 3), .int (iv 4), .int (iv 5), .ref (ad 6), .ref (ad 7), .ref (ad 8), .ref (ad 9), .ref (ad 10), .ref (ad 11), .int (iv 12), .ref (ad 13), .ref (ad 14), .ref (ad 15), .ref (ad 16), .ref (ad 17), .ref (ad 18), .ref (ad 19), .int (iv 20), .ref (ad 21), .ref (ad 22), .ref (ad 23), .ref (ad 24), .ref (ad 25), .ref (ad 26), .ref (ad 27), .ref (ad 28), .int (iv 29), .ref (ad 30), .ref (ad 31), .int (iv 32), .int (iv 33), .int (iv 34), .int (iv 35), .long tl, .int (nI 0), .int (nI (gm_name cs (sA i0) (eA i0))), .int (nI 0), .int (nI (eA i0)), .ref (ad 41), .ref (ad 42), .int (iv 43)])) := ⟨_, rfl⟩
            rw [← u611] at w
            have k609 : pd_kq y h601 h608 := by rw [u611]; exact pd_up_kq
            have f610 : h608 y = some (20, .inr (10, [.ref (ad 0), .ref (ad 1), .ref (ad 2), .int (iv 3), .int (iv 4), .int (iv 5), .ref (ad 6), .ref (ad 7), .ref (ad 8), .ref (ad 9), .ref (ad 10), .ref (ad 11), .int (iv 12), .ref (ad 13), .ref (ad 14), .ref (ad 15), .ref (ad 16), .ref (ad 17), .ref (ad 18), .ref (ad 19), .int (iv 20), .ref (ad 21), .ref (ad 22), .ref (ad 23), .ref (ad 24), .ref (ad 25), .ref (ad 26), .ref (ad 27), .ref (ad 28), .int (iv 29), .ref (ad 30), .ref (ad 31), .int (iv 32), .int (iv 33), .int (iv 34), .int (iv 35), .long tl, .int (nI 0), .int (nI (gm_name cs (sA i0) (eA i0))), .int (nI 0), .int (nI (eA i0)), .ref (ad 41), .ref (ad 42), .int (iv 43)])) := by rw [u611]; exact pd_up_s _ _ _
            have f612 := k609 _ _ (pd_ne f605 f603 (by simp)) f605
            have f613 := k609 _ _ (pd_ne f606 f603 (by simp)) f606
            have f614 := k609 _ _ (pd_ne f607 f603 (by simp)) f607
            refine lv_iload_n hx hb d_p15m16_169 rfl (lv_at hl 0 rfl) ?_
            refine lv_iload_n hx hb d_p15m16_170 rfl (lv_at hl 1 rfl) ?_
            refine pd_jne (tgt := 176) hx hb d_p15m16_171 (by decide) (by omega) (by omega) (fun q615 => ?_) (fun q615 => ?_)
            · -- taken: 176
              refine lv_aload_n hx hb d_p15m16_176 rfl (lv_at hl 2 rfl) ?_
              refine pd_get X w f610 rfl 0 (by decide) mT_1139 rfl rfl d_p15m16_177 ?_
              refine lv_iload_n hx hb d_p15m16_180 rfl (lv_at hl 0 rfl) ?_
              refine pd_iald X w f612 (by omega) (by omega) d_p15m16_181 ?_
              refine pd_top (v' := .int (nI (cs.getD (gm_name cs (sA i0) (eA i0)) 0))) (congrArg Value.int (hln _ (by omega))) ?_
              have := tx_lt hlc (gm_name cs (sA i0) (eA i0))
              refine lv_bipush (v := nI 46) hx hb d_p15m16_182 (by decide) ?_
              refine pd_jne (tgt := 194) hx hb d_p15m16_184 (by decide) (by omega) (by omega) (fun q616 => ?_) (fun q616 => ?_)
              · -- taken: 194
                refine lv_iconst (v := nI 0) hx hb d_p15m16_194 (by decide) ?_
                have hpt : gm_pt cs (gm_name cs (sA i0) (eA i0)) (eA i0) = none := by unfold gm_pt; rw [if_neg (by omega), if_pos (by omega)]
                have hp : gm_pat cs (sA i0) (eA i0) = none := by unfold gm_pat; rw [hph]; simp only [hpt]
                refine W.eq (g2 := F0 m 195 ls [.int (pd_b false)]) rfl ?_
                exact pd_zret (v := false) X w ⟨by rw [hp]; rfl, pd_kx.tr (pd_kx.tr (pd_kx.tr (pd_kx.tr (pd_kx.tr (pd_kq.kx (k2) hy0) (pd_kq.kx (k9) f3)) (pd_kq.kx (k512) f10)) (pd_kq.kx (k519) f513)) (pd_kq.kx (k602) f520)) (pd_kq.kx (k609) f603), (nI 0), (nI (gm_name cs (sA i0) (eA i0))), (nI 0), (nI (eA i0)), (pd_MO.of (fv2 := fv) (iv2 := pd_fu (pd_fu (pd_fu (pd_fu iv 37 (nI 0)) 38 (nI (gm_name cs (sA i0) (eA i0)))) 39 (nI 0)) 40 (nI (eA i0))) (tl2 := tl) (ts := [20]) hMO (pd_kx.tr (pd_kx.tr (pd_kx.tr (pd_kx.tr (pd_kx.tr (pd_kq.kx (k2) hy0) (pd_kq.kx (k9) f3)) (pd_kq.kx (k512) f10)) (pd_kq.kx (k519) f513)) (pd_kq.kx (k602) f520)) (pd_kq.kx (k609) f603)) f610 (fun j hj => Or.inr ⟨fun z => by first | (simp at z; done) | (simp at z; omega), rfl⟩)), fun t9 ht9 => by rw [hp] at ht9; cases ht9⟩ (by decide) (by decide) d_p15m16_195
              · -- not taken: 187
                refine lv_iload_n hx hb d_p15m16_187 rfl (lv_at hl 0 rfl) ?_
                refine lv_iconst (v := nI 1) hx hb d_p15m16_188 (by decide) ?_
                refine pd_iadd hx hb d_p15m16_189 ?_
                refine lv_iload_n hx hb d_p15m16_190 rfl (lv_at hl 1 rfl) ?_
                refine pd_jne (tgt := 196) hx hb d_p15m16_191 (by decide) (by omega) (by omega) (fun q617 => ?_) (fun q617 => ?_)
                · -- taken: 196
                  refine lv_aload_n hx hb d_p15m16_196 rfl (lv_at hl 2 rfl) ?_
                  refine lv_aload_n hx hb d_p15m16_197 rfl (lv_at hl 2 rfl) ?_
                  refine pd_get X w f610 rfl 0 (by decide) mT_1139 rfl rfl d_p15m16_198 ?_
                  refine lv_iload_n hx hb d_p15m16_201 rfl (lv_at hl 0 rfl) ?_
                  refine lv_iconst (v := nI 1) hx hb d_p15m16_202 (by decide) ?_
                  refine pd_iadd hx hb d_p15m16_203 ?_
                  refine pd_iald X w f612 (by omega) (by omega) d_p15m16_204 ?_
                  refine pd_top (v' := .int (nI (cs.getD ((gm_name cs (sA i0) (eA i0)) + 1) 0))) (congrArg Value.int (hln _ (by omega))) ?_
                  have := tx_lt hlc ((gm_name cs (sA i0) (eA i0)) + 1)
                  refine lv_bipush (v := nI 42) hx hb d_p15m16_205 (by decide) ?_
                  refine pd_jne (tgt := 221) hx hb d_p15m16_207 (by decide) (by omega) (by omega) (fun q618 => ?_) (fun q618 => ?_)
                  · -- taken: 221
                    refine lv_iconst (v := nI 2) hx hb d_p15m16_221 (by decide) ?_
                    refine pd_put (ty := .int) X w f610 hz_y rfl 39 (by decide) mT_1178 rfl rfl (by decide +kernel) rfl rfl (Nat.le_of_ble_eq_true rfl) d_p15m16_222 (fun H locs w => ?_)
                    have w : pd_w G s H locs (pd_up h608 y (20, .inr (10, [.ref (ad 0), .ref (ad 1), .ref (ad 2), .int (iv 3), .int (iv 4), .int (iv 5), .ref (ad 6), .ref (ad 7), .ref (ad 8), .ref (ad 9), .ref (ad 10), .ref (ad 11), .int (iv 12), .ref (ad 13), .ref (ad 14), .ref (ad 15), .ref (ad 16), .ref (ad 17), .ref (ad 18), .ref (ad 19), .int (iv 20), .ref (ad 21), .ref (ad 22), .ref (ad 23), .ref (ad 24), .ref (ad 25), .ref (ad 26), .ref (ad 27), .ref (ad 28), .int (iv 29), .ref (ad 30), .ref (ad 31), .int (iv 32), .int (iv 33), .int (iv 34), .int (iv 35), .long tl, .int (nI 0), .int (nI (gm_name cs (sA i0) (eA i0))), .int (nI 2), .int (nI (eA i0)), .ref (ad 41), .ref (ad 42), .int (iv 43)]))) := w
                    obtain ⟨h619, u622⟩ : ∃ z, z = pd_up h608 y (20, .inr (10, [.ref (ad 0), .ref (ad 1), .ref (ad 2), .int (iv 3), .int (iv 4), .int (iv 5), .ref (ad 6), .ref (ad 7), .ref (ad 8), .ref (ad 9), .ref (ad 10), .ref (ad 11), .int (iv 12), .ref (ad 13), .ref (ad 14), .ref (ad 15), .ref (ad 16), .ref (ad 17), .ref (ad 18), .ref (ad 19), .int (iv 20), .ref (ad 21), .ref (ad 22), .ref (ad 23), .ref (ad 24), .ref (ad 25), .ref (ad 26), .ref (ad 27), .ref (ad 28), .int (iv 29), .ref (ad 30), .ref (ad 31), .int (iv 32), .int (iv 33), .int (iv 34), .int (iv 35), .long tl, .int (nI 0), .int (nI (gm_name cs (sA i0) (eA i0))), .int (nI 2), .int (nI (eA i0)), .ref (ad 41), .ref (ad 42), .int (iv 43)])) := ⟨_, rfl⟩
                    rw [← u622] at w
                    have k620 : pd_kq y h608 h619 := by rw [u622]; exact pd_up_kq
                    have f621 : h619 y = some (20, .inr (10, [.ref (ad 0), .ref (ad 1), .ref (ad 2), .int (iv 3), .int (iv 4), .int (iv 5), .ref (ad 6), .ref (ad 7), .ref (ad 8), .ref (ad 9), .ref (ad 10), .ref (ad 11), .int (iv 12), .ref (ad 13), .ref (ad 14), .ref (ad 15), .ref (ad 16), .ref (ad 17), .ref (ad 18), .ref (ad 19), .int (iv 20), .ref (ad 21), .ref (ad 22), .ref (ad 23), .ref (ad 24), .ref (ad 25), .ref (ad 26), .ref (ad 27), .ref (ad 28), .int (iv 29), .ref (ad 30), .ref (ad 31), .int (iv 32), .int (iv 33), .int (iv 34), .int (iv 35), .long tl, .int (nI 0), .int (nI (gm_name cs (sA i0) (eA i0))), .int (nI 2), .int (nI (eA i0)), .ref (ad 41), .ref (ad 42), .int (iv 43)])) := by rw [u622]; exact pd_up_s _ _ _
                    have f623 := k620 _ _ (pd_ne f612 f610 (by simp)) f612
                    have f624 := k620 _ _ (pd_ne f613 f610 (by simp)) f613
                    have f625 := k620 _ _ (pd_ne f614 f610 (by simp)) f614
                    refine lv_aload_n hx hb d_p15m16_225 rfl (lv_at hl 2 rfl) ?_
                    refine lv_iload_n hx hb d_p15m16_226 rfl (lv_at hl 0 rfl) ?_
                    refine lv_iconst (v := nI 1) hx hb d_p15m16_227 (by decide) ?_
                    refine pd_iadd hx hb d_p15m16_228 ?_
                    refine pd_put (ty := .int) X w f621 hz_y rfl 40 (by decide) mT_1179 rfl rfl (by decide +kernel) rfl rfl (Nat.le_of_ble_eq_true rfl) d_p15m16_229 (fun H locs w => ?_)
                    have w : pd_w G s H locs (pd_up h619 y (20, .inr (10, [.ref (ad 0), .ref (ad 1), .ref (ad 2), .int (iv 3), .int (iv 4), .int (iv 5), .ref (ad 6), .ref (ad 7), .ref (ad 8), .ref (ad 9), .ref (ad 10), .ref (ad 11), .int (iv 12), .ref (ad 13), .ref (ad 14), .ref (ad 15), .ref (ad 16), .ref (ad 17), .ref (ad 18), .ref (ad 19), .int (iv 20), .ref (ad 21), .ref (ad 22), .ref (ad 23), .ref (ad 24), .ref (ad 25), .ref (ad 26), .ref (ad 27), .ref (ad 28), .int (iv 29), .ref (ad 30), .ref (ad 31), .int (iv 32), .int (iv 33), .int (iv 34), .int (iv 35), .long tl, .int (nI 0), .int (nI (gm_name cs (sA i0) (eA i0))), .int (nI 2), .int (nI ((gm_name cs (sA i0) (eA i0)) + 1)), .ref (ad 41), .ref (ad 42), .int (iv 43)]))) := w
                    obtain ⟨h626, u629⟩ : ∃ z, z = pd_up h619 y (20, .inr (10, [.ref (ad 0), .ref (ad 1), .ref (ad 2), .int (iv 3), .int (iv 4), .int (iv 5), .ref (ad 6), .ref (ad 7), .ref (ad 8), .ref (ad 9), .ref (ad 10), .ref (ad 11), .int (iv 12), .ref (ad 13), .ref (ad 14), .ref (ad 15), .ref (ad 16), .ref (ad 17), .ref (ad 18), .ref (ad 19), .int (iv 20), .ref (ad 21), .ref (ad 22), .ref (ad 23), .ref (ad 24), .ref (ad 25), .ref (ad 26), .ref (ad 27), .ref (ad 28), .int (iv 29), .ref (ad 30), .ref (ad 31), .int (iv 32), .int (iv 33), .int (iv 34), .int (iv 35), .long tl, .int (nI 0), .int (nI (gm_name cs (sA i0) (eA i0))), .int (nI 2), .int (nI ((gm_name cs (sA i0) (eA i0)) + 1)), .ref (ad 41), .ref (ad 42), .int (iv 43)])) := ⟨_, rfl⟩
                    rw [← u629] at w
                    have k627 : pd_kq y h619 h626 := by rw [u629]; exact pd_up_kq
                    have f628 : h626 y = some (20, .inr (10, [.ref (ad 0), .ref (ad 1), .ref (ad 2), .int (iv 3), .int (iv 4), .int (iv 5), .ref (ad 6), .ref (ad 7), .ref (ad 8), .ref (ad 9), .ref (ad 10), .ref (ad 11), .int (iv 12), .ref (ad 13), .ref (ad 14), .ref (ad 15), .ref (ad 16), .ref (ad 17), .ref (ad 18), .ref (ad 19), .int (iv 20), .ref (ad 21), .ref (ad 22), .ref (ad 23), .ref (ad 24), .ref (ad 25), .ref (ad 26), .ref (ad 27), .ref (ad 28), .int (iv 29), .ref (ad 30), .ref (ad 31), .int (iv 32), .int (iv 33), .int (iv 34), .int (iv 35), .long tl, .int (nI 0), .int (nI (gm_name cs (sA i0) (eA i0))), .int (nI 2), .int (nI ((gm_name cs (sA i0) (eA i0)) + 1)), .ref (ad 41), .ref (ad 42), .int (iv 43)])) := by rw [u629]; exact pd_up_s _ _ _
                    have f630 := k627 _ _ (pd_ne f623 f621 (by simp)) f623
                    have f631 := k627 _ _ (pd_ne f624 f621 (by simp)) f624
                    have f632 := k627 _ _ (pd_ne f625 f621 (by simp)) f625
                    refine lv_aload_n hx hb d_p15m16_232 rfl (lv_at hl 2 rfl) ?_
                    refine pd_get X w f628 rfl 39 (by decide) mT_1178 rfl rfl d_p15m16_233 ?_
                    refine lv_iconst (v := nI 1) hx hb d_p15m16_236 (by decide) ?_
                    refine pd_jeq (tgt := 252) hx hb d_p15m16_237 (by decide) (by decide) (by decide) (fun q => absurd q (by decide)) (fun _ => ?_)
                    refine lv_aload_n hx hb d_p15m16_240 rfl (lv_at hl 2 rfl) ?_
                    refine lv_iload_n hx hb d_p15m16_241 rfl (lv_at hl 0 rfl) ?_
                    refine lv_iconst (v := nI 1) hx hb d_p15m16_242 (by decide) ?_
                    refine pd_iadd hx hb d_p15m16_243 ?_
                    refine lv_iload_n hx hb d_p15m16_244 rfl (lv_at hl 1 rfl) ?_
                    refine pd_cV (a := y) (As := [.int (nI ((gm_name cs (sA i0) (eA i0)) + 1)), .int (nI (eA i0))]) (rest := []) X w f628 rfl (c_PolicyDeskModel_behindPart l G h626 (ad := ad) (fv := fv) (iv := pd_fu (pd_fu (pd_fu (pd_fu iv 37 (nI 0)) 38 (nI (gm_name cs (sA i0) (eA i0)))) 39 (nI 2)) 40 (nI ((gm_name cs (sA i0) (eA i0)) + 1))) (tl := tl) (pd_MO.of (fv2 := fv) (iv2 := pd_fu (pd_fu (pd_fu (pd_fu iv 37 (nI 0)) 38 (nI (gm_name cs (sA i0) (eA i0)))) 39 (nI 2)) 40 (nI ((gm_name cs (sA i0) (eA i0)) + 1))) (tl2 := tl) (ts := [20]) hMO (pd_kx.tr (pd_kx.tr (pd_kx.tr (pd_kx.tr (pd_kx.tr (pd_kx.tr (pd_kx.tr (pd_kq.kx (k2) hy0) (pd_kq.kx (k9) f3)) (pd_kq.kx (k512) f10)) (pd_kq.kx (k519) f513)) (pd_kq.kx (k602) f520)) (pd_kq.kx (k609) f603)) (pd_kq.kx (k620) f610)) (pd_kq.kx (k627) f621)) f628 (fun j hj => Or.inr ⟨fun z => by first | (simp at z; done) | (simp at z; omega), rfl⟩)) hL (by omega) (by omega)) ok_PolicyDeskModel_behindPart ⟨mT_1315, sT_19⟩ mT_1313 ⟨by decide, by decide⟩ rfl hl.1 rfl (Nat.le_of_ble_eq_true rfl) d_p15m16_245 ⟨by decide, by decide⟩ (fun r634 h635 H locs hp636 w => ?_)
                    refine W.widen (k := 0) (n := 0) (by decide) (by decide) ?_
                    obtain ⟨e637, rfl⟩ := hp636
                    have hpl := gm_part_le (cs := cs) (x := gm_name cs (sA i0) (eA i0) + 1) (to := eA i0) (by omega)
                    refine lv_iload_n hx hb d_p15m16_248 rfl (lv_at hl 1 rfl) ?_
                    refine pd_jne (tgt := 256) hx hb d_p15m16_249 (by decide) (by omega) (by omega) (fun q638 => ?_) (fun q638 => ?_)
                    · -- taken: 256
                      refine lv_iconst (v := nI 0) hx hb d_p15m16_256 (by decide) ?_
                      have hpt : gm_pt cs (gm_name cs (sA i0) (eA i0)) (eA i0) = none := by unfold gm_pt; rw [if_neg (by omega), if_neg (by omega), if_neg (by omega), if_neg (by rw [← e637]; omega)]
                      have hp : gm_pat cs (sA i0) (eA i0) = none := by unfold gm_pat; rw [hph]; simp only [hpt]
                      refine W.eq (g2 := F0 m 257 ls [.int (pd_b false)]) rfl ?_
                      exact pd_zret (v := false) X w ⟨by rw [hp]; rfl, pd_kx.tr (pd_kx.tr (pd_kx.tr (pd_kx.tr (pd_kx.tr (pd_kx.tr (pd_kx.tr (pd_kq.kx (k2) hy0) (pd_kq.kx (k9) f3)) (pd_kq.kx (k512) f10)) (pd_kq.kx (k519) f513)) (pd_kq.kx (k602) f520)) (pd_kq.kx (k609) f603)) (pd_kq.kx (k620) f610)) (pd_kq.kx (k627) f621), (nI 0), (nI (gm_name cs (sA i0) (eA i0))), (nI 2), (nI ((gm_name cs (sA i0) (eA i0)) + 1)), (pd_MO.of (fv2 := fv) (iv2 := pd_fu (pd_fu (pd_fu (pd_fu iv 37 (nI 0)) 38 (nI (gm_name cs (sA i0) (eA i0)))) 39 (nI 2)) 40 (nI ((gm_name cs (sA i0) (eA i0)) + 1))) (tl2 := tl) (ts := [20]) hMO (pd_kx.tr (pd_kx.tr (pd_kx.tr (pd_kx.tr (pd_kx.tr (pd_kx.tr (pd_kx.tr (pd_kq.kx (k2) hy0) (pd_kq.kx (k9) f3)) (pd_kq.kx (k512) f10)) (pd_kq.kx (k519) f513)) (pd_kq.kx (k602) f520)) (pd_kq.kx (k609) f603)) (pd_kq.kx (k620) f610)) (pd_kq.kx (k627) f621)) f628 (fun j hj => Or.inr ⟨fun z => by first | (simp at z; done) | (simp at z; omega), rfl⟩)), fun t9 ht9 => by rw [hp] at ht9; cases ht9⟩ (by decide) (by decide) d_p15m16_257
                    · -- not taken: 252
                      refine lv_iconst (v := nI 1) hx hb d_p15m16_252 (by decide) ?_
                      refine lv_goto (tgt := 257) hx hb d_p15m16_253 (by decide) ?_
                      have hpt : gm_pt cs (gm_name cs (sA i0) (eA i0)) (eA i0) = some (2, gm_name cs (sA i0) (eA i0) + 1) := by unfold gm_pt; rw [if_neg (by omega), if_neg (by omega), if_neg (by omega), if_pos (by rw [← e637]; omega)]
                      have hp : gm_pat cs (sA i0) (eA i0) = some (0, gm_name cs (sA i0) (eA i0), 2, gm_name cs (sA i0) (eA i0) + 1) := by unfold gm_pat; rw [hph]; simp only [hpt]
                      refine W.eq (g2 := F0 m 257 ls [.int (pd_b true)]) rfl ?_
                      exact pd_zret (v := true) X w ⟨by rw [hp]; rfl, pd_kx.tr (pd_kx.tr (pd_kx.tr (pd_kx.tr (pd_kx.tr (pd_kx.tr (pd_kx.tr (pd_kq.kx (k2) hy0) (pd_kq.kx (k9) f3)) (pd_kq.kx (k512) f10)) (pd_kq.kx (k519) f513)) (pd_kq.kx (k602) f520)) (pd_kq.kx (k609) f603)) (pd_kq.kx (k620) f610)) (pd_kq.kx (k627) f621), (nI 0), (nI (gm_name cs (sA i0) (eA i0))), (nI 2), (nI ((gm_name cs (sA i0) (eA i0)) + 1)), (pd_MO.of (fv2 := fv) (iv2 := pd_fu (pd_fu (pd_fu (pd_fu iv 37 (nI 0)) 38 (nI (gm_name cs (sA i0) (eA i0)))) 39 (nI 2)) 40 (nI ((gm_name cs (sA i0) (eA i0)) + 1))) (tl2 := tl) (ts := [20]) hMO (pd_kx.tr (pd_kx.tr (pd_kx.tr (pd_kx.tr (pd_kx.tr (pd_kx.tr (pd_kx.tr (pd_kq.kx (k2) hy0) (pd_kq.kx (k9) f3)) (pd_kq.kx (k512) f10)) (pd_kq.kx (k519) f513)) (pd_kq.kx (k602) f520)) (pd_kq.kx (k609) f603)) (pd_kq.kx (k620) f610)) (pd_kq.kx (k627) f621)) f628 (fun j hj => Or.inr ⟨fun z => by first | (simp at z; done) | (simp at z; omega), rfl⟩)), fun t9 ht9 => by rw [hp] at ht9; cases ht9; exact ⟨rfl, rfl, rfl, rfl⟩⟩ (by decide) (by decide) d_p15m16_257
                  · -- not taken: 210
                    refine lv_iload_n hx hb d_p15m16_210 rfl (lv_at hl 0 rfl) ?_
                    refine lv_iconst (v := nI 2) hx hb d_p15m16_211 (by decide) ?_
                    refine pd_iadd hx hb d_p15m16_212 ?_
                    refine lv_iload_n hx hb d_p15m16_213 rfl (lv_at hl 1 rfl) ?_
                    refine pd_jne (tgt := 221) hx hb d_p15m16_214 (by decide) (by omega) (by omega) (fun q639 => ?_) (fun q639 => ?_)
                    · -- taken: 221
                      refine lv_iconst (v := nI 2) hx hb d_p15m16_221 (by decide) ?_
                      refine pd_put (ty := .int) X w f610 hz_y rfl 39 (by decide) mT_1178 rfl rfl (by decide +kernel) rfl rfl (Nat.le_of_ble_eq_true rfl) d_p15m16_222 (fun H locs w => ?_)
                      have w : pd_w G s H locs (pd_up h608 y (20, .inr (10, [.ref (ad 0), .ref (ad 1), .ref (ad 2), .int (iv 3), .int (iv 4), .int (iv 5), .ref (ad 6), .ref (ad 7), .ref (ad 8), .ref (ad 9), .ref (ad 10), .ref (ad 11), .int (iv 12), .ref (ad 13), .ref (ad 14), .ref (ad 15), .ref (ad 16), .ref (ad 17), .ref (ad 18), .ref (ad 19), .int (iv 20), .ref (ad 21), .ref (ad 22), .ref (ad 23), .ref (ad 24), .ref (ad 25), .ref (ad 26), .ref (ad 27), .ref (ad 28), .int (iv 29), .ref (ad 30), .ref (ad 31), .int (iv 32), .int (iv 33), .int (iv 34), .int (iv 35), .long tl, .int (nI 0), .int (nI (gm_name cs (sA i0) (eA i0))), .int (nI 2), .int (nI (eA i0)), .ref (ad 41), .ref (ad 42), .int (iv 43)]))) := w
                      obtain ⟨h640, u643⟩ : ∃ z, z = pd_up h608 y (20, .inr (10, [.ref (ad 0), .ref (ad 1), .ref (ad 2), .int (iv 3), .int (iv 4), .int (iv 5), .ref (ad 6), .ref (ad 7), .ref (ad 8), .ref (ad 9), .ref (ad 10), .ref (ad 11), .int (iv 12), .ref (ad 13), .ref (ad 14), .ref (ad 15), .ref (ad 16), .ref (ad 17), .ref (ad 18), .ref (ad 19), .int (iv 20), .ref (ad 21), .ref (ad 22), .ref (ad 23), .ref (ad 24), .ref (ad 25), .ref (ad 26), .ref (ad 27), .ref (ad 28), .int (iv 29), .ref (ad 30), .ref (ad 31), .int (iv 32), .int (iv 33), .int (iv 34), .int (iv 35), .long tl, .int (nI 0), .int (nI (gm_name cs (sA i0) (eA i0))), .int (nI 2), .int (nI (eA i0)), .ref (ad 41), .ref (ad 42), .int (iv 43)])) := ⟨_, rfl⟩
                      rw [← u643] at w
                      have k641 : pd_kq y h608 h640 := by rw [u643]; exact pd_up_kq
                      have f642 : h640 y = some (20, .inr (10, [.ref (ad 0), .ref (ad 1), .ref (ad 2), .int (iv 3), .int (iv 4), .int (iv 5), .ref (ad 6), .ref (ad 7), .ref (ad 8), .ref (ad 9), .ref (ad 10), .ref (ad 11), .int (iv 12), .ref (ad 13), .ref (ad 14), .ref (ad 15), .ref (ad 16), .ref (ad 17), .ref (ad 18), .ref (ad 19), .int (iv 20), .ref (ad 21), .ref (ad 22), .ref (ad 23), .ref (ad 24), .ref (ad 25), .ref (ad 26), .ref (ad 27), .ref (ad 28), .int (iv 29), .ref (ad 30), .ref (ad 31), .int (iv 32), .int (iv 33), .int (iv 34), .int (iv 35), .long tl, .int (nI 0), .int (nI (gm_name cs (sA i0) (eA i0))), .int (nI 2), .int (nI (eA i0)), .ref (ad 41), .ref (ad 42), .int (iv 43)])) := by rw [u643]; exact pd_up_s _ _ _
                      have f644 := k641 _ _ (pd_ne f612 f610 (by simp)) f612
                      have f645 := k641 _ _ (pd_ne f613 f610 (by simp)) f613
                      have f646 := k641 _ _ (pd_ne f614 f610 (by simp)) f614
                      refine lv_aload_n hx hb d_p15m16_225 rfl (lv_at hl 2 rfl) ?_
                      refine lv_iload_n hx hb d_p15m16_226 rfl (lv_at hl 0 rfl) ?_
                      refine lv_iconst (v := nI 1) hx hb d_p15m16_227 (by decide) ?_
                      refine pd_iadd hx hb d_p15m16_228 ?_
                      refine pd_put (ty := .int) X w f642 hz_y rfl 40 (by decide) mT_1179 rfl rfl (by decide +kernel) rfl rfl (Nat.le_of_ble_eq_true rfl) d_p15m16_229 (fun H locs w => ?_)
                      have w : pd_w G s H locs (pd_up h640 y (20, .inr (10, [.ref (ad 0), .ref (ad 1), .ref (ad 2), .int (iv 3), .int (iv 4), .int (iv 5), .ref (ad 6), .ref (ad 7), .ref (ad 8), .ref (ad 9), .ref (ad 10), .ref (ad 11), .int (iv 12), .ref (ad 13), .ref (ad 14), .ref (ad 15), .ref (ad 16), .ref (ad 17), .ref (ad 18), .ref (ad 19), .int (iv 20), .ref (ad 21), .ref (ad 22), .ref (ad 23), .ref (ad 24), .ref (ad 25), .ref (ad 26), .ref (ad 27), .ref (ad 28), .int (iv 29), .ref (ad 30), .ref (ad 31), .int (iv 32), .int (iv 33), .int (iv 34), .int (iv 35), .long tl, .int (nI 0), .int (nI (gm_name cs (sA i0) (eA i0))), .int (nI 2), .int (nI ((gm_name cs (sA i0) (eA i0)) + 1)), .ref (ad 41), .ref (ad 42), .int (iv 43)]))) := w
                      obtain ⟨h647, u650⟩ : ∃ z, z = pd_up h640 y (20, .inr (10, [.ref (ad 0), .ref (ad 1), .ref (ad 2), .int (iv 3), .int (iv 4), .int (iv 5), .ref (ad 6), .ref (ad 7), .ref (ad 8), .ref (ad 9), .ref (ad 10), .ref (ad 11), .int (iv 12), .ref (ad 13), .ref (ad 14), .ref (ad 15), .ref (ad 16), .ref (ad 17), .ref (ad 18), .ref (ad 19), .int (iv 20), .ref (ad 21), .ref (ad 22), .ref (ad 23), .ref (ad 24), .ref (ad 25), .ref (ad 26), .ref (ad 27), .ref (ad 28), .int (iv 29), .ref (ad 30), .ref (ad 31), .int (iv 32), .int (iv 33), .int (iv 34), .int (iv 35), .long tl, .int (nI 0), .int (nI (gm_name cs (sA i0) (eA i0))), .int (nI 2), .int (nI ((gm_name cs (sA i0) (eA i0)) + 1)), .ref (ad 41), .ref (ad 42), .int (iv 43)])) := ⟨_, rfl⟩
                      rw [← u650] at w
                      have k648 : pd_kq y h640 h647 := by rw [u650]; exact pd_up_kq
                      have f649 : h647 y = some (20, .inr (10, [.ref (ad 0), .ref (ad 1), .ref (ad 2), .int (iv 3), .int (iv 4), .int (iv 5), .ref (ad 6), .ref (ad 7), .ref (ad 8), .ref (ad 9), .ref (ad 10), .ref (ad 11), .int (iv 12), .ref (ad 13), .ref (ad 14), .ref (ad 15), .ref (ad 16), .ref (ad 17), .ref (ad 18), .ref (ad 19), .int (iv 20), .ref (ad 21), .ref (ad 22), .ref (ad 23), .ref (ad 24), .ref (ad 25), .ref (ad 26), .ref (ad 27), .ref (ad 28), .int (iv 29), .ref (ad 30), .ref (ad 31), .int (iv 32), .int (iv 33), .int (iv 34), .int (iv 35), .long tl, .int (nI 0), .int (nI (gm_name cs (sA i0) (eA i0))), .int (nI 2), .int (nI ((gm_name cs (sA i0) (eA i0)) + 1)), .ref (ad 41), .ref (ad 42), .int (iv 43)])) := by rw [u650]; exact pd_up_s _ _ _
                      have f651 := k648 _ _ (pd_ne f644 f642 (by simp)) f644
                      have f652 := k648 _ _ (pd_ne f645 f642 (by simp)) f645
                      have f653 := k648 _ _ (pd_ne f646 f642 (by simp)) f646
                      refine lv_aload_n hx hb d_p15m16_232 rfl (lv_at hl 2 rfl) ?_
                      refine pd_get X w f649 rfl 39 (by decide) mT_1178 rfl rfl d_p15m16_233 ?_
                      refine lv_iconst (v := nI 1) hx hb d_p15m16_236 (by decide) ?_
                      refine pd_jeq (tgt := 252) hx hb d_p15m16_237 (by decide) (by decide) (by decide) (fun q => absurd q (by decide)) (fun _ => ?_)
                      refine lv_aload_n hx hb d_p15m16_240 rfl (lv_at hl 2 rfl) ?_
                      refine lv_iload_n hx hb d_p15m16_241 rfl (lv_at hl 0 rfl) ?_
                      refine lv_iconst (v := nI 1) hx hb d_p15m16_242 (by decide) ?_
                      refine pd_iadd hx hb d_p15m16_243 ?_
                      refine lv_iload_n hx hb d_p15m16_244 rfl (lv_at hl 1 rfl) ?_
                      refine pd_cV (a := y) (As := [.int (nI ((gm_name cs (sA i0) (eA i0)) + 1)), .int (nI (eA i0))]) (rest := []) X w f649 rfl (c_PolicyDeskModel_behindPart l G h647 (ad := ad) (fv := fv) (iv := pd_fu (pd_fu (pd_fu (pd_fu iv 37 (nI 0)) 38 (nI (gm_name cs (sA i0) (eA i0)))) 39 (nI 2)) 40 (nI ((gm_name cs (sA i0) (eA i0)) + 1))) (tl := tl) (pd_MO.of (fv2 := fv) (iv2 := pd_fu (pd_fu (pd_fu (pd_fu iv 37 (nI 0)) 38 (nI (gm_name cs (sA i0) (eA i0)))) 39 (nI 2)) 40 (nI ((gm_name cs (sA i0) (eA i0)) + 1))) (tl2 := tl) (ts := [20]) hMO (pd_kx.tr (pd_kx.tr (pd_kx.tr (pd_kx.tr (pd_kx.tr (pd_kx.tr (pd_kx.tr (pd_kq.kx (k2) hy0) (pd_kq.kx (k9) f3)) (pd_kq.kx (k512) f10)) (pd_kq.kx (k519) f513)) (pd_kq.kx (k602) f520)) (pd_kq.kx (k609) f603)) (pd_kq.kx (k641) f610)) (pd_kq.kx (k648) f642)) f649 (fun j hj => Or.inr ⟨fun z => by first | (simp at z; done) | (simp at z; omega), rfl⟩)) hL (by omega) (by omega)) ok_PolicyDeskModel_behindPart ⟨mT_1315, sT_19⟩ mT_1313 ⟨by decide, by decide⟩ rfl hl.1 rfl (Nat.le_of_ble_eq_true rfl) d_p15m16_245 ⟨by decide, by decide⟩ (fun r655 h656 H locs hp657 w => ?_)
                      refine W.widen (k := 0) (n := 0) (by decide) (by decide) ?_
                      obtain ⟨e658, rfl⟩ := hp657
                      have hpl := gm_part_le (cs := cs) (x := gm_name cs (sA i0) (eA i0) + 1) (to := eA i0) (by omega)
                      refine lv_iload_n hx hb d_p15m16_248 rfl (lv_at hl 1 rfl) ?_
                      refine pd_jne (tgt := 256) hx hb d_p15m16_249 (by decide) (by omega) (by omega) (fun q659 => ?_) (fun q659 => ?_)
                      · -- taken: 256
                        refine lv_iconst (v := nI 0) hx hb d_p15m16_256 (by decide) ?_
                        have hpt : gm_pt cs (gm_name cs (sA i0) (eA i0)) (eA i0) = none := by unfold gm_pt; rw [if_neg (by omega), if_neg (by omega), if_neg (by omega), if_neg (by rw [← e658]; omega)]
                        have hp : gm_pat cs (sA i0) (eA i0) = none := by unfold gm_pat; rw [hph]; simp only [hpt]
                        refine W.eq (g2 := F0 m 257 ls [.int (pd_b false)]) rfl ?_
                        exact pd_zret (v := false) X w ⟨by rw [hp]; rfl, pd_kx.tr (pd_kx.tr (pd_kx.tr (pd_kx.tr (pd_kx.tr (pd_kx.tr (pd_kx.tr (pd_kq.kx (k2) hy0) (pd_kq.kx (k9) f3)) (pd_kq.kx (k512) f10)) (pd_kq.kx (k519) f513)) (pd_kq.kx (k602) f520)) (pd_kq.kx (k609) f603)) (pd_kq.kx (k641) f610)) (pd_kq.kx (k648) f642), (nI 0), (nI (gm_name cs (sA i0) (eA i0))), (nI 2), (nI ((gm_name cs (sA i0) (eA i0)) + 1)), (pd_MO.of (fv2 := fv) (iv2 := pd_fu (pd_fu (pd_fu (pd_fu iv 37 (nI 0)) 38 (nI (gm_name cs (sA i0) (eA i0)))) 39 (nI 2)) 40 (nI ((gm_name cs (sA i0) (eA i0)) + 1))) (tl2 := tl) (ts := [20]) hMO (pd_kx.tr (pd_kx.tr (pd_kx.tr (pd_kx.tr (pd_kx.tr (pd_kx.tr (pd_kx.tr (pd_kq.kx (k2) hy0) (pd_kq.kx (k9) f3)) (pd_kq.kx (k512) f10)) (pd_kq.kx (k519) f513)) (pd_kq.kx (k602) f520)) (pd_kq.kx (k609) f603)) (pd_kq.kx (k641) f610)) (pd_kq.kx (k648) f642)) f649 (fun j hj => Or.inr ⟨fun z => by first | (simp at z; done) | (simp at z; omega), rfl⟩)), fun t9 ht9 => by rw [hp] at ht9; cases ht9⟩ (by decide) (by decide) d_p15m16_257
                      · -- not taken: 252
                        refine lv_iconst (v := nI 1) hx hb d_p15m16_252 (by decide) ?_
                        refine lv_goto (tgt := 257) hx hb d_p15m16_253 (by decide) ?_
                        have hpt : gm_pt cs (gm_name cs (sA i0) (eA i0)) (eA i0) = some (2, gm_name cs (sA i0) (eA i0) + 1) := by unfold gm_pt; rw [if_neg (by omega), if_neg (by omega), if_neg (by omega), if_pos (by rw [← e658]; omega)]
                        have hp : gm_pat cs (sA i0) (eA i0) = some (0, gm_name cs (sA i0) (eA i0), 2, gm_name cs (sA i0) (eA i0) + 1) := by unfold gm_pat; rw [hph]; simp only [hpt]
                        refine W.eq (g2 := F0 m 257 ls [.int (pd_b true)]) rfl ?_
                        exact pd_zret (v := true) X w ⟨by rw [hp]; rfl, pd_kx.tr (pd_kx.tr (pd_kx.tr (pd_kx.tr (pd_kx.tr (pd_kx.tr (pd_kx.tr (pd_kq.kx (k2) hy0) (pd_kq.kx (k9) f3)) (pd_kq.kx (k512) f10)) (pd_kq.kx (k519) f513)) (pd_kq.kx (k602) f520)) (pd_kq.kx (k609) f603)) (pd_kq.kx (k641) f610)) (pd_kq.kx (k648) f642), (nI 0), (nI (gm_name cs (sA i0) (eA i0))), (nI 2), (nI ((gm_name cs (sA i0) (eA i0)) + 1)), (pd_MO.of (fv2 := fv) (iv2 := pd_fu (pd_fu (pd_fu (pd_fu iv 37 (nI 0)) 38 (nI (gm_name cs (sA i0) (eA i0)))) 39 (nI 2)) 40 (nI ((gm_name cs (sA i0) (eA i0)) + 1))) (tl2 := tl) (ts := [20]) hMO (pd_kx.tr (pd_kx.tr (pd_kx.tr (pd_kx.tr (pd_kx.tr (pd_kx.tr (pd_kx.tr (pd_kq.kx (k2) hy0) (pd_kq.kx (k9) f3)) (pd_kq.kx (k512) f10)) (pd_kq.kx (k519) f513)) (pd_kq.kx (k602) f520)) (pd_kq.kx (k609) f603)) (pd_kq.kx (k641) f610)) (pd_kq.kx (k648) f642)) f649 (fun j hj => Or.inr ⟨fun z => by first | (simp at z; done) | (simp at z; omega), rfl⟩)), fun t9 ht9 => by rw [hp] at ht9; cases ht9; exact ⟨rfl, rfl, rfl, rfl⟩⟩ (by decide) (by decide) d_p15m16_257
                    · -- not taken: 217
                      refine lv_iconst (v := nI 1) hx hb d_p15m16_217 (by decide) ?_
                      refine lv_goto (tgt := 222) hx hb d_p15m16_218 (by decide) ?_
                      refine pd_put (ty := .int) X w f610 hz_y rfl 39 (by decide) mT_1178 rfl rfl (by decide +kernel) rfl rfl (Nat.le_of_ble_eq_true rfl) d_p15m16_222 (fun H locs w => ?_)
                      have w : pd_w G s H locs (pd_up h608 y (20, .inr (10, [.ref (ad 0), .ref (ad 1), .ref (ad 2), .int (iv 3), .int (iv 4), .int (iv 5), .ref (ad 6), .ref (ad 7), .ref (ad 8), .ref (ad 9), .ref (ad 10), .ref (ad 11), .int (iv 12), .ref (ad 13), .ref (ad 14), .ref (ad 15), .ref (ad 16), .ref (ad 17), .ref (ad 18), .ref (ad 19), .int (iv 20), .ref (ad 21), .ref (ad 22), .ref (ad 23), .ref (ad 24), .ref (ad 25), .ref (ad 26), .ref (ad 27), .ref (ad 28), .int (iv 29), .ref (ad 30), .ref (ad 31), .int (iv 32), .int (iv 33), .int (iv 34), .int (iv 35), .long tl, .int (nI 0), .int (nI (gm_name cs (sA i0) (eA i0))), .int (nI 1), .int (nI (eA i0)), .ref (ad 41), .ref (ad 42), .int (iv 43)]))) := w
                      obtain ⟨h660, u663⟩ : ∃ z, z = pd_up h608 y (20, .inr (10, [.ref (ad 0), .ref (ad 1), .ref (ad 2), .int (iv 3), .int (iv 4), .int (iv 5), .ref (ad 6), .ref (ad 7), .ref (ad 8), .ref (ad 9), .ref (ad 10), .ref (ad 11), .int (iv 12), .ref (ad 13), .ref (ad 14), .ref (ad 15), .ref (ad 16), .ref (ad 17), .ref (ad 18), .ref (ad 19), .int (iv 20), .ref (ad 21), .ref (ad 22), .ref (ad 23), .ref (ad 24), .ref (ad 25), .ref (ad 26), .ref (ad 27), .ref (ad 28), .int (iv 29), .ref (ad 30), .ref (ad 31), .int (iv 32), .int (iv 33), .int (iv 34), .int (iv 35), .long tl, .int (nI 0), .int (nI (gm_name cs (sA i0) (eA i0))), .int (nI 1), .int (nI (eA i0)), .ref (ad 41), .ref (ad 42), .int (iv 43)])) := ⟨_, rfl⟩
                      rw [← u663] at w
                      have k661 : pd_kq y h608 h660 := by rw [u663]; exact pd_up_kq
                      have f662 : h660 y = some (20, .inr (10, [.ref (ad 0), .ref (ad 1), .ref (ad 2), .int (iv 3), .int (iv 4), .int (iv 5), .ref (ad 6), .ref (ad 7), .ref (ad 8), .ref (ad 9), .ref (ad 10), .ref (ad 11), .int (iv 12), .ref (ad 13), .ref (ad 14), .ref (ad 15), .ref (ad 16), .ref (ad 17), .ref (ad 18), .ref (ad 19), .int (iv 20), .ref (ad 21), .ref (ad 22), .ref (ad 23), .ref (ad 24), .ref (ad 25), .ref (ad 26), .ref (ad 27), .ref (ad 28), .int (iv 29), .ref (ad 30), .ref (ad 31), .int (iv 32), .int (iv 33), .int (iv 34), .int (iv 35), .long tl, .int (nI 0), .int (nI (gm_name cs (sA i0) (eA i0))), .int (nI 1), .int (nI (eA i0)), .ref (ad 41), .ref (ad 42), .int (iv 43)])) := by rw [u663]; exact pd_up_s _ _ _
                      have f664 := k661 _ _ (pd_ne f612 f610 (by simp)) f612
                      have f665 := k661 _ _ (pd_ne f613 f610 (by simp)) f613
                      have f666 := k661 _ _ (pd_ne f614 f610 (by simp)) f614
                      refine lv_aload_n hx hb d_p15m16_225 rfl (lv_at hl 2 rfl) ?_
                      refine lv_iload_n hx hb d_p15m16_226 rfl (lv_at hl 0 rfl) ?_
                      refine lv_iconst (v := nI 1) hx hb d_p15m16_227 (by decide) ?_
                      refine pd_iadd hx hb d_p15m16_228 ?_
                      refine pd_put (ty := .int) X w f662 hz_y rfl 40 (by decide) mT_1179 rfl rfl (by decide +kernel) rfl rfl (Nat.le_of_ble_eq_true rfl) d_p15m16_229 (fun H locs w => ?_)
                      have w : pd_w G s H locs (pd_up h660 y (20, .inr (10, [.ref (ad 0), .ref (ad 1), .ref (ad 2), .int (iv 3), .int (iv 4), .int (iv 5), .ref (ad 6), .ref (ad 7), .ref (ad 8), .ref (ad 9), .ref (ad 10), .ref (ad 11), .int (iv 12), .ref (ad 13), .ref (ad 14), .ref (ad 15), .ref (ad 16), .ref (ad 17), .ref (ad 18), .ref (ad 19), .int (iv 20), .ref (ad 21), .ref (ad 22), .ref (ad 23), .ref (ad 24), .ref (ad 25), .ref (ad 26), .ref (ad 27), .ref (ad 28), .int (iv 29), .ref (ad 30), .ref (ad 31), .int (iv 32), .int (iv 33), .int (iv 34), .int (iv 35), .long tl, .int (nI 0), .int (nI (gm_name cs (sA i0) (eA i0))), .int (nI 1), .int (nI ((gm_name cs (sA i0) (eA i0)) + 1)), .ref (ad 41), .ref (ad 42), .int (iv 43)]))) := w
                      obtain ⟨h667, u670⟩ : ∃ z, z = pd_up h660 y (20, .inr (10, [.ref (ad 0), .ref (ad 1), .ref (ad 2), .int (iv 3), .int (iv 4), .int (iv 5), .ref (ad 6), .ref (ad 7), .ref (ad 8), .ref (ad 9), .ref (ad 10), .ref (ad 11), .int (iv 12), .ref (ad 13), .ref (ad 14), .ref (ad 15), .ref (ad 16), .ref (ad 17), .ref (ad 18), .ref (ad 19), .int (iv 20), .ref (ad 21), .ref (ad 22), .ref (ad 23), .ref (ad 24), .ref (ad 25), .ref (ad 26), .ref (ad 27), .ref (ad 28), .int (iv 29), .ref (ad 30), .ref (ad 31), .int (iv 32), .int (iv 33), .int (iv 34), .int (iv 35), .long tl, .int (nI 0), .int (nI (gm_name cs (sA i0) (eA i0))), .int (nI 1), .int (nI ((gm_name cs (sA i0) (eA i0)) + 1)), .ref (ad 41), .ref (ad 42), .int (iv 43)])) := ⟨_, rfl⟩
                      rw [← u670] at w
                      have k668 : pd_kq y h660 h667 := by rw [u670]; exact pd_up_kq
                      have f669 : h667 y = some (20, .inr (10, [.ref (ad 0), .ref (ad 1), .ref (ad 2), .int (iv 3), .int (iv 4), .int (iv 5), .ref (ad 6), .ref (ad 7), .ref (ad 8), .ref (ad 9), .ref (ad 10), .ref (ad 11), .int (iv 12), .ref (ad 13), .ref (ad 14), .ref (ad 15), .ref (ad 16), .ref (ad 17), .ref (ad 18), .ref (ad 19), .int (iv 20), .ref (ad 21), .ref (ad 22), .ref (ad 23), .ref (ad 24), .ref (ad 25), .ref (ad 26), .ref (ad 27), .ref (ad 28), .int (iv 29), .ref (ad 30), .ref (ad 31), .int (iv 32), .int (iv 33), .int (iv 34), .int (iv 35), .long tl, .int (nI 0), .int (nI (gm_name cs (sA i0) (eA i0))), .int (nI 1), .int (nI ((gm_name cs (sA i0) (eA i0)) + 1)), .ref (ad 41), .ref (ad 42), .int (iv 43)])) := by rw [u670]; exact pd_up_s _ _ _
                      have f671 := k668 _ _ (pd_ne f664 f662 (by simp)) f664
                      have f672 := k668 _ _ (pd_ne f665 f662 (by simp)) f665
                      have f673 := k668 _ _ (pd_ne f666 f662 (by simp)) f666
                      refine lv_aload_n hx hb d_p15m16_232 rfl (lv_at hl 2 rfl) ?_
                      refine pd_get X w f669 rfl 39 (by decide) mT_1178 rfl rfl d_p15m16_233 ?_
                      refine lv_iconst (v := nI 1) hx hb d_p15m16_236 (by decide) ?_
                      refine pd_jeq (tgt := 252) hx hb d_p15m16_237 (by decide) (by decide) (by decide) (fun _ => ?_) (fun q => absurd q (by decide))
                      refine lv_iconst (v := nI 1) hx hb d_p15m16_252 (by decide) ?_
                      refine lv_goto (tgt := 257) hx hb d_p15m16_253 (by decide) ?_
                      have hpt : gm_pt cs (gm_name cs (sA i0) (eA i0)) (eA i0) = some (1, gm_name cs (sA i0) (eA i0) + 1) := by unfold gm_pt; rw [if_neg (by omega), if_neg (by omega), if_pos (by omega)]
                      have hp : gm_pat cs (sA i0) (eA i0) = some (0, gm_name cs (sA i0) (eA i0), 1, gm_name cs (sA i0) (eA i0) + 1) := by unfold gm_pat; rw [hph]; simp only [hpt]
                      refine W.eq (g2 := F0 m 257 ls [.int (pd_b true)]) rfl ?_
                      exact pd_zret (v := true) X w ⟨by rw [hp]; rfl, pd_kx.tr (pd_kx.tr (pd_kx.tr (pd_kx.tr (pd_kx.tr (pd_kx.tr (pd_kx.tr (pd_kq.kx (k2) hy0) (pd_kq.kx (k9) f3)) (pd_kq.kx (k512) f10)) (pd_kq.kx (k519) f513)) (pd_kq.kx (k602) f520)) (pd_kq.kx (k609) f603)) (pd_kq.kx (k661) f610)) (pd_kq.kx (k668) f662), (nI 0), (nI (gm_name cs (sA i0) (eA i0))), (nI 1), (nI ((gm_name cs (sA i0) (eA i0)) + 1)), (pd_MO.of (fv2 := fv) (iv2 := pd_fu (pd_fu (pd_fu (pd_fu iv 37 (nI 0)) 38 (nI (gm_name cs (sA i0) (eA i0)))) 39 (nI 1)) 40 (nI ((gm_name cs (sA i0) (eA i0)) + 1))) (tl2 := tl) (ts := [20]) hMO (pd_kx.tr (pd_kx.tr (pd_kx.tr (pd_kx.tr (pd_kx.tr (pd_kx.tr (pd_kx.tr (pd_kq.kx (k2) hy0) (pd_kq.kx (k9) f3)) (pd_kq.kx (k512) f10)) (pd_kq.kx (k519) f513)) (pd_kq.kx (k602) f520)) (pd_kq.kx (k609) f603)) (pd_kq.kx (k661) f610)) (pd_kq.kx (k668) f662)) f669 (fun j hj => Or.inr ⟨fun z => by first | (simp at z; done) | (simp at z; omega), rfl⟩)), fun t9 ht9 => by rw [hp] at ht9; cases ht9; exact ⟨rfl, rfl, rfl, rfl⟩⟩ (by decide) (by decide) d_p15m16_257
                · -- not taken: 194
                  refine lv_iconst (v := nI 0) hx hb d_p15m16_194 (by decide) ?_
                  have hpt : gm_pt cs (gm_name cs (sA i0) (eA i0)) (eA i0) = none := by unfold gm_pt; rw [if_neg (by omega), if_pos (by omega)]
                  have hp : gm_pat cs (sA i0) (eA i0) = none := by unfold gm_pat; rw [hph]; simp only [hpt]
                  refine W.eq (g2 := F0 m 195 ls [.int (pd_b false)]) rfl ?_
                  exact pd_zret (v := false) X w ⟨by rw [hp]; rfl, pd_kx.tr (pd_kx.tr (pd_kx.tr (pd_kx.tr (pd_kx.tr (pd_kq.kx (k2) hy0) (pd_kq.kx (k9) f3)) (pd_kq.kx (k512) f10)) (pd_kq.kx (k519) f513)) (pd_kq.kx (k602) f520)) (pd_kq.kx (k609) f603), (nI 0), (nI (gm_name cs (sA i0) (eA i0))), (nI 0), (nI (eA i0)), (pd_MO.of (fv2 := fv) (iv2 := pd_fu (pd_fu (pd_fu (pd_fu iv 37 (nI 0)) 38 (nI (gm_name cs (sA i0) (eA i0)))) 39 (nI 0)) 40 (nI (eA i0))) (tl2 := tl) (ts := [20]) hMO (pd_kx.tr (pd_kx.tr (pd_kx.tr (pd_kx.tr (pd_kx.tr (pd_kq.kx (k2) hy0) (pd_kq.kx (k9) f3)) (pd_kq.kx (k512) f10)) (pd_kq.kx (k519) f513)) (pd_kq.kx (k602) f520)) (pd_kq.kx (k609) f603)) f610 (fun j hj => Or.inr ⟨fun z => by first | (simp at z; done) | (simp at z; omega), rfl⟩)), fun t9 ht9 => by rw [hp] at ht9; cases ht9⟩ (by decide) (by decide) d_p15m16_195
            · -- not taken: 174
              refine lv_iconst (v := nI 1) hx hb d_p15m16_174 (by decide) ?_
              have hpt : gm_pt cs (gm_name cs (sA i0) (eA i0)) (eA i0) = some (0, eA i0) := by unfold gm_pt; rw [if_pos (by omega)]
              have hp : gm_pat cs (sA i0) (eA i0) = some (0, gm_name cs (sA i0) (eA i0), 0, eA i0) := by unfold gm_pat; rw [hph]; simp only [hpt]
              refine W.eq (g2 := F0 m 175 ls [.int (pd_b true)]) rfl ?_
              exact pd_zret (v := true) X w ⟨by rw [hp]; rfl, pd_kx.tr (pd_kx.tr (pd_kx.tr (pd_kx.tr (pd_kx.tr (pd_kq.kx (k2) hy0) (pd_kq.kx (k9) f3)) (pd_kq.kx (k512) f10)) (pd_kq.kx (k519) f513)) (pd_kq.kx (k602) f520)) (pd_kq.kx (k609) f603), (nI 0), (nI (gm_name cs (sA i0) (eA i0))), (nI 0), (nI (eA i0)), (pd_MO.of (fv2 := fv) (iv2 := pd_fu (pd_fu (pd_fu (pd_fu iv 37 (nI 0)) 38 (nI (gm_name cs (sA i0) (eA i0)))) 39 (nI 0)) 40 (nI (eA i0))) (tl2 := tl) (ts := [20]) hMO (pd_kx.tr (pd_kx.tr (pd_kx.tr (pd_kx.tr (pd_kx.tr (pd_kq.kx (k2) hy0) (pd_kq.kx (k9) f3)) (pd_kq.kx (k512) f10)) (pd_kq.kx (k519) f513)) (pd_kq.kx (k602) f520)) (pd_kq.kx (k609) f603)) f610 (fun j hj => Or.inr ⟨fun z => by first | (simp at z; done) | (simp at z; omega), rfl⟩)), fun t9 ht9 => by rw [hp] at ht9; cases ht9; exact ⟨rfl, rfl, rfl, rfl⟩⟩ (by decide) (by decide) d_p15m16_175
          · -- not taken: 108
            refine lv_aload_n hx hb d_p15m16_108 rfl (lv_at hl 2 rfl) ?_
            refine pd_get X w f520 rfl 0 (by decide) mT_1139 rfl rfl d_p15m16_109 ?_
            refine lv_iload_n hx hb d_p15m16_112 rfl (lv_at hl 0 rfl) ?_
            refine lv_iconst (v := nI 1) hx hb d_p15m16_113 (by decide) ?_
            refine pd_iadd hx hb d_p15m16_114 ?_
            refine pd_iald X w f522 (by omega) (by omega) d_p15m16_115 ?_
            refine pd_top (v' := .int (nI (cs.getD ((gm_name cs (sA i0) (eA i0)) + 1) 0))) (congrArg Value.int (hln _ (by omega))) ?_
            have := tx_lt hlc ((gm_name cs (sA i0) (eA i0)) + 1)
            refine lv_bipush (v := nI 42) hx hb d_p15m16_116 (by decide) ?_
            refine pd_jne (tgt := 159) hx hb d_p15m16_118 (by decide) (by omega) (by omega) (fun q675 => ?_) (fun q675 => ?_)
            · -- taken: 159
              have hph : gm_ph cs (sA i0) (eA i0) = some (0, gm_name cs (sA i0) (eA i0), gm_name cs (sA i0) (eA i0)) := by unfold gm_ph; rw [if_neg (by omega), if_neg (by omega), if_neg (by omega)]
              refine lv_aload_n hx hb d_p15m16_159 rfl (lv_at hl 2 rfl) ?_
              refine lv_iconst (v := nI 0) hx hb d_p15m16_160 (by decide) ?_
              refine pd_put (ty := .int) X w f520 hz_y rfl 39 (by decide) mT_1178 rfl rfl (by decide +kernel) rfl rfl (Nat.le_of_ble_eq_true rfl) d_p15m16_161 (fun H locs w => ?_)
              have w : pd_w G s H locs (pd_up h518 y (20, .inr (10, [.ref (ad 0), .ref (ad 1), .ref (ad 2), .int (iv 3), .int (iv 4), .int (iv 5), .ref (ad 6), .ref (ad 7), .ref (ad 8), .ref (ad 9), .ref (ad 10), .ref (ad 11), .int (iv 12), .ref (ad 13), .ref (ad 14), .ref (ad 15), .ref (ad 16), .ref (ad 17), .ref (ad 18), .ref (ad 19), .int (iv 20), .ref (ad 21), .ref (ad 22), .ref (ad 23), .ref (ad 24), .ref (ad 25), .ref (ad 26), .ref (ad 27), .ref (ad 28), .int (iv 29), .ref (ad 30), .ref (ad 31), .int (iv 32), .int (iv 33), .int (iv 34), .int (iv 35), .long tl, .int (nI 0), .int (nI (gm_name cs (sA i0) (eA i0))), .int (nI 0), .int (iv 40), .ref (ad 41), .ref (ad 42), .int (iv 43)]))) := w
              obtain ⟨h676, u679⟩ : ∃ z, z = pd_up h518 y (20, .inr (10, [.ref (ad 0), .ref (ad 1), .ref (ad 2), .int (iv 3), .int (iv 4), .int (iv 5), .ref (ad 6), .ref (ad 7), .ref (ad 8), .ref (ad 9), .ref (ad 10), .ref (ad 11), .int (iv 12), .ref (ad 13), .ref (ad 14), .ref (ad 15), .ref (ad 16), .ref (ad 17), .ref (ad 18), .ref (ad 19), .int (iv 20), .ref (ad 21), .ref (ad 22), .ref (ad 23), .ref (ad 24), .ref (ad 25), .ref (ad 26), .ref (ad 27), .ref (ad 28), .int (iv 29), .ref (ad 30), .ref (ad 31), .int (iv 32), .int (iv 33), .int (iv 34), .int (iv 35), .long tl, .int (nI 0), .int (nI (gm_name cs (sA i0) (eA i0))), .int (nI 0), .int (iv 40), .ref (ad 41), .ref (ad 42), .int (iv 43)])) := ⟨_, rfl⟩
              rw [← u679] at w
              have k677 : pd_kq y h518 h676 := by rw [u679]; exact pd_up_kq
              have f678 : h676 y = some (20, .inr (10, [.ref (ad 0), .ref (ad 1), .ref (ad 2), .int (iv 3), .int (iv 4), .int (iv 5), .ref (ad 6), .ref (ad 7), .ref (ad 8), .ref (ad 9), .ref (ad 10), .ref (ad 11), .int (iv 12), .ref (ad 13), .ref (ad 14), .ref (ad 15), .ref (ad 16), .ref (ad 17), .ref (ad 18), .ref (ad 19), .int (iv 20), .ref (ad 21), .ref (ad 22), .ref (ad 23), .ref (ad 24), .ref (ad 25), .ref (ad 26), .ref (ad 27), .ref (ad 28), .int (iv 29), .ref (ad 30), .ref (ad 31), .int (iv 32), .int (iv 33), .int (iv 34), .int (iv 35), .long tl, .int (nI 0), .int (nI (gm_name cs (sA i0) (eA i0))), .int (nI 0), .int (iv 40), .ref (ad 41), .ref (ad 42), .int (iv 43)])) := by rw [u679]; exact pd_up_s _ _ _
              have f680 := k677 _ _ (pd_ne f522 f520 (by simp)) f522
              have f681 := k677 _ _ (pd_ne f523 f520 (by simp)) f523
              have f682 := k677 _ _ (pd_ne f524 f520 (by simp)) f524
              refine lv_aload_n hx hb d_p15m16_164 rfl (lv_at hl 2 rfl) ?_
              refine lv_iload_n hx hb d_p15m16_165 rfl (lv_at hl 1 rfl) ?_
              refine pd_put (ty := .int) X w f678 hz_y rfl 40 (by decide) mT_1179 rfl rfl (by decide +kernel) rfl rfl (Nat.le_of_ble_eq_true rfl) d_p15m16_166 (fun H locs w => ?_)
              have w : pd_w G s H locs (pd_up h676 y (20, .inr (10, [.ref (ad 0), .ref (ad 1), .ref (ad 2), .int (iv 3), .int (iv 4), .int (iv 5), .ref (ad 6), .ref (ad 7), .ref (ad 8), .ref (ad 9), .ref (ad 10), .ref (ad 11), .int (iv 12), .ref (ad 13), .ref (ad 14), .ref (ad 15), .ref (ad 16), .ref (ad 17), .ref (ad 18), .ref (ad 19), .int (iv 20), .ref (ad 21), .ref (ad 22), .ref (ad 23), .ref (ad 24), .ref (ad 25), .ref (ad 26), .ref (ad 27), .ref (ad 28), .int (iv 29), .ref (ad 30), .ref (ad 31), .int (iv 32), .int (iv 33), .int (iv 34), .int (iv 35), .long tl, .int (nI 0), .int (nI (gm_name cs (sA i0) (eA i0))), .int (nI 0), .int (nI (eA i0)), .ref (ad 41), .ref (ad 42), .int (iv 43)]))) := w
              obtain ⟨h683, u686⟩ : ∃ z, z = pd_up h676 y (20, .inr (10, [.ref (ad 0), .ref (ad 1), .ref (ad 2), .int (iv 3), .int (iv 4), .int (iv 5), .ref (ad 6), .ref (ad 7), .ref (ad 8), .ref (ad 9), .ref (ad 10), .ref (ad 11), .int (iv 12), .ref (ad 13), .ref (ad 14), .ref (ad 15), .ref (ad 16), .ref (ad 17), .ref (ad 18), .ref (ad 19), .int (iv 20), .ref (ad 21), .ref (ad 22), .ref (ad 23), .ref (ad 24), .ref (ad 25), .ref (ad 26), .ref (ad 27), .ref (ad 28), .int (iv 29), .ref (ad 30), .ref (ad 31), .int (iv 32), .int (iv 33), .int (iv 34), .int (iv 35), .long tl, .int (nI 0), .int (nI (gm_name cs (sA i0) (eA i0))), .int (nI 0), .int (nI (eA i0)), .ref (ad 41), .ref (ad 42), .int (iv 43)])) := ⟨_, rfl⟩
              rw [← u686] at w
              have k684 : pd_kq y h676 h683 := by rw [u686]; exact pd_up_kq
              have f685 : h683 y = some (20, .inr (10, [.ref (ad 0), .ref (ad 1), .ref (ad 2), .int (iv 3), .int (iv 4), .int (iv 5), .ref (ad 6), .ref (ad 7), .ref (ad 8), .ref (ad 9), .ref (ad 10), .ref (ad 11), .int (iv 12), .ref (ad 13), .ref (ad 14), .ref (ad 15), .ref (ad 16), .ref (ad 17), .ref (ad 18), .ref (ad 19), .int (iv 20), .ref (ad 21), .ref (ad 22), .ref (ad 23), .ref (ad 24), .ref (ad 25), .ref (ad 26), .ref (ad 27), .ref (ad 28), .int (iv 29), .ref (ad 30), .ref (ad 31), .int (iv 32), .int (iv 33), .int (iv 34), .int (iv 35), .long tl, .int (nI 0), .int (nI (gm_name cs (sA i0) (eA i0))), .int (nI 0), .int (nI (eA i0)), .ref (ad 41), .ref (ad 42), .int (iv 43)])) := by rw [u686]; exact pd_up_s _ _ _
              have f687 := k684 _ _ (pd_ne f680 f678 (by simp)) f680
              have f688 := k684 _ _ (pd_ne f681 f678 (by simp)) f681
              have f689 := k684 _ _ (pd_ne f682 f678 (by simp)) f682
              refine lv_iload_n hx hb d_p15m16_169 rfl (lv_at hl 0 rfl) ?_
              refine lv_iload_n hx hb d_p15m16_170 rfl (lv_at hl 1 rfl) ?_
              refine pd_jne (tgt := 176) hx hb d_p15m16_171 (by decide) (by omega) (by omega) (fun q690 => ?_) (fun q690 => ?_)
              · -- taken: 176
                refine lv_aload_n hx hb d_p15m16_176 rfl (lv_at hl 2 rfl) ?_
                refine pd_get X w f685 rfl 0 (by decide) mT_1139 rfl rfl d_p15m16_177 ?_
                refine lv_iload_n hx hb d_p15m16_180 rfl (lv_at hl 0 rfl) ?_
                refine pd_iald X w f687 (by omega) (by omega) d_p15m16_181 ?_
                refine pd_top (v' := .int (nI (cs.getD (gm_name cs (sA i0) (eA i0)) 0))) (congrArg Value.int (hln _ (by omega))) ?_
                have := tx_lt hlc (gm_name cs (sA i0) (eA i0))
                refine lv_bipush (v := nI 46) hx hb d_p15m16_182 (by decide) ?_
                refine pd_jne (tgt := 194) hx hb d_p15m16_184 (by decide) (by omega) (by omega) (fun q691 => ?_) (fun q691 => ?_)
                · -- taken: 194
                  refine lv_iconst (v := nI 0) hx hb d_p15m16_194 (by decide) ?_
                  have hpt : gm_pt cs (gm_name cs (sA i0) (eA i0)) (eA i0) = none := by unfold gm_pt; rw [if_neg (by omega), if_pos (by omega)]
                  have hp : gm_pat cs (sA i0) (eA i0) = none := by unfold gm_pat; rw [hph]; simp only [hpt]
                  refine W.eq (g2 := F0 m 195 ls [.int (pd_b false)]) rfl ?_
                  exact pd_zret (v := false) X w ⟨by rw [hp]; rfl, pd_kx.tr (pd_kx.tr (pd_kx.tr (pd_kx.tr (pd_kx.tr (pd_kq.kx (k2) hy0) (pd_kq.kx (k9) f3)) (pd_kq.kx (k512) f10)) (pd_kq.kx (k519) f513)) (pd_kq.kx (k677) f520)) (pd_kq.kx (k684) f678), (nI 0), (nI (gm_name cs (sA i0) (eA i0))), (nI 0), (nI (eA i0)), (pd_MO.of (fv2 := fv) (iv2 := pd_fu (pd_fu (pd_fu (pd_fu iv 37 (nI 0)) 38 (nI (gm_name cs (sA i0) (eA i0)))) 39 (nI 0)) 40 (nI (eA i0))) (tl2 := tl) (ts := [20]) hMO (pd_kx.tr (pd_kx.tr (pd_kx.tr (pd_kx.tr (pd_kx.tr (pd_kq.kx (k2) hy0) (pd_kq.kx (k9) f3)) (pd_kq.kx (k512) f10)) (pd_kq.kx (k519) f513)) (pd_kq.kx (k677) f520)) (pd_kq.kx (k684) f678)) f685 (fun j hj => Or.inr ⟨fun z => by first | (simp at z; done) | (simp at z; omega), rfl⟩)), fun t9 ht9 => by rw [hp] at ht9; cases ht9⟩ (by decide) (by decide) d_p15m16_195
                · -- not taken: 187
                  refine lv_iload_n hx hb d_p15m16_187 rfl (lv_at hl 0 rfl) ?_
                  refine lv_iconst (v := nI 1) hx hb d_p15m16_188 (by decide) ?_
                  refine pd_iadd hx hb d_p15m16_189 ?_
                  refine lv_iload_n hx hb d_p15m16_190 rfl (lv_at hl 1 rfl) ?_
                  refine pd_jne (tgt := 196) hx hb d_p15m16_191 (by decide) (by omega) (by omega) (fun q692 => ?_) (fun q692 => ?_)
                  · -- taken: 196
                    refine lv_aload_n hx hb d_p15m16_196 rfl (lv_at hl 2 rfl) ?_
                    refine lv_aload_n hx hb d_p15m16_197 rfl (lv_at hl 2 rfl) ?_
                    refine pd_get X w f685 rfl 0 (by decide) mT_1139 rfl rfl d_p15m16_198 ?_
                    refine lv_iload_n hx hb d_p15m16_201 rfl (lv_at hl 0 rfl) ?_
                    refine lv_iconst (v := nI 1) hx hb d_p15m16_202 (by decide) ?_
                    refine pd_iadd hx hb d_p15m16_203 ?_
                    refine pd_iald X w f687 (by omega) (by omega) d_p15m16_204 ?_
                    refine pd_top (v' := .int (nI (cs.getD ((gm_name cs (sA i0) (eA i0)) + 1) 0))) (congrArg Value.int (hln _ (by omega))) ?_
                    have := tx_lt hlc ((gm_name cs (sA i0) (eA i0)) + 1)
                    refine lv_bipush (v := nI 42) hx hb d_p15m16_205 (by decide) ?_
                    refine pd_jne (tgt := 221) hx hb d_p15m16_207 (by decide) (by omega) (by omega) (fun q693 => ?_) (fun q693 => ?_)
                    · -- taken: 221
                      refine lv_iconst (v := nI 2) hx hb d_p15m16_221 (by decide) ?_
                      refine pd_put (ty := .int) X w f685 hz_y rfl 39 (by decide) mT_1178 rfl rfl (by decide +kernel) rfl rfl (Nat.le_of_ble_eq_true rfl) d_p15m16_222 (fun H locs w => ?_)
                      have w : pd_w G s H locs (pd_up h683 y (20, .inr (10, [.ref (ad 0), .ref (ad 1), .ref (ad 2), .int (iv 3), .int (iv 4), .int (iv 5), .ref (ad 6), .ref (ad 7), .ref (ad 8), .ref (ad 9), .ref (ad 10), .ref (ad 11), .int (iv 12), .ref (ad 13), .ref (ad 14), .ref (ad 15), .ref (ad 16), .ref (ad 17), .ref (ad 18), .ref (ad 19), .int (iv 20), .ref (ad 21), .ref (ad 22), .ref (ad 23), .ref (ad 24), .ref (ad 25), .ref (ad 26), .ref (ad 27), .ref (ad 28), .int (iv 29), .ref (ad 30), .ref (ad 31), .int (iv 32), .int (iv 33), .int (iv 34), .int (iv 35), .long tl, .int (nI 0), .int (nI (gm_name cs (sA i0) (eA i0))), .int (nI 2), .int (nI (eA i0)), .ref (ad 41), .ref (ad 42), .int (iv 43)]))) := w
                      obtain ⟨h694, u697⟩ : ∃ z, z = pd_up h683 y (20, .inr (10, [.ref (ad 0), .ref (ad 1), .ref (ad 2), .int (iv 3), .int (iv 4), .int (iv 5), .ref (ad 6), .ref (ad 7), .ref (ad 8), .ref (ad 9), .ref (ad 10), .ref (ad 11), .int (iv 12), .ref (ad 13), .ref (ad 14), .ref (ad 15), .ref (ad 16), .ref (ad 17), .ref (ad 18), .ref (ad 19), .int (iv 20), .ref (ad 21), .ref (ad 22), .ref (ad 23), .ref (ad 24), .ref (ad 25), .ref (ad 26), .ref (ad 27), .ref (ad 28), .int (iv 29), .ref (ad 30), .ref (ad 31), .int (iv 32), .int (iv 33), .int (iv 34), .int (iv 35), .long tl, .int (nI 0), .int (nI (gm_name cs (sA i0) (eA i0))), .int (nI 2), .int (nI (eA i0)), .ref (ad 41), .ref (ad 42), .int (iv 43)])) := ⟨_, rfl⟩
                      rw [← u697] at w
                      have k695 : pd_kq y h683 h694 := by rw [u697]; exact pd_up_kq
                      have f696 : h694 y = some (20, .inr (10, [.ref (ad 0), .ref (ad 1), .ref (ad 2), .int (iv 3), .int (iv 4), .int (iv 5), .ref (ad 6), .ref (ad 7), .ref (ad 8), .ref (ad 9), .ref (ad 10), .ref (ad 11), .int (iv 12), .ref (ad 13), .ref (ad 14), .ref (ad 15), .ref (ad 16), .ref (ad 17), .ref (ad 18), .ref (ad 19), .int (iv 20), .ref (ad 21), .ref (ad 22), .ref (ad 23), .ref (ad 24), .ref (ad 25), .ref (ad 26), .ref (ad 27), .ref (ad 28), .int (iv 29), .ref (ad 30), .ref (ad 31), .int (iv 32), .int (iv 33), .int (iv 34), .int (iv 35), .long tl, .int (nI 0), .int (nI (gm_name cs (sA i0) (eA i0))), .int (nI 2), .int (nI (eA i0)), .ref (ad 41), .ref (ad 42), .int (iv 43)])) := by rw [u697]; exact pd_up_s _ _ _
                      have f698 := k695 _ _ (pd_ne f687 f685 (by simp)) f687
                      have f699 := k695 _ _ (pd_ne f688 f685 (by simp)) f688
                      have f700 := k695 _ _ (pd_ne f689 f685 (by simp)) f689
                      refine lv_aload_n hx hb d_p15m16_225 rfl (lv_at hl 2 rfl) ?_
                      refine lv_iload_n hx hb d_p15m16_226 rfl (lv_at hl 0 rfl) ?_
                      refine lv_iconst (v := nI 1) hx hb d_p15m16_227 (by decide) ?_
                      refine pd_iadd hx hb d_p15m16_228 ?_
                      refine pd_put (ty := .int) X w f696 hz_y rfl 40 (by decide) mT_1179 rfl rfl (by decide +kernel) rfl rfl (Nat.le_of_ble_eq_true rfl) d_p15m16_229 (fun H locs w => ?_)
                      have w : pd_w G s H locs (pd_up h694 y (20, .inr (10, [.ref (ad 0), .ref (ad 1), .ref (ad 2), .int (iv 3), .int (iv 4), .int (iv 5), .ref (ad 6), .ref (ad 7), .ref (ad 8), .ref (ad 9), .ref (ad 10), .ref (ad 11), .int (iv 12), .ref (ad 13), .ref (ad 14), .ref (ad 15), .ref (ad 16), .ref (ad 17), .ref (ad 18), .ref (ad 19), .int (iv 20), .ref (ad 21), .ref (ad 22), .ref (ad 23), .ref (ad 24), .ref (ad 25), .ref (ad 26), .ref (ad 27), .ref (ad 28), .int (iv 29), .ref (ad 30), .ref (ad 31), .int (iv 32), .int (iv 33), .int (iv 34), .int (iv 35), .long tl, .int (nI 0), .int (nI (gm_name cs (sA i0) (eA i0))), .int (nI 2), .int (nI ((gm_name cs (sA i0) (eA i0)) + 1)), .ref (ad 41), .ref (ad 42), .int (iv 43)]))) := w
                      obtain ⟨h701, u704⟩ : ∃ z, z = pd_up h694 y (20, .inr (10, [.ref (ad 0), .ref (ad 1), .ref (ad 2), .int (iv 3), .int (iv 4), .int (iv 5), .ref (ad 6), .ref (ad 7), .ref (ad 8), .ref (ad 9), .ref (ad 10), .ref (ad 11), .int (iv 12), .ref (ad 13), .ref (ad 14), .ref (ad 15), .ref (ad 16), .ref (ad 17), .ref (ad 18), .ref (ad 19), .int (iv 20), .ref (ad 21), .ref (ad 22), .ref (ad 23), .ref (ad 24), .ref (ad 25), .ref (ad 26), .ref (ad 27), .ref (ad 28), .int (iv 29), .ref (ad 30), .ref (ad 31), .int (iv 32), .int (iv 33), .int (iv 34), .int (iv 35), .long tl, .int (nI 0), .int (nI (gm_name cs (sA i0) (eA i0))), .int (nI 2), .int (nI ((gm_name cs (sA i0) (eA i0)) + 1)), .ref (ad 41), .ref (ad 42), .int (iv 43)])) := ⟨_, rfl⟩
                      rw [← u704] at w
                      have k702 : pd_kq y h694 h701 := by rw [u704]; exact pd_up_kq
                      have f703 : h701 y = some (20, .inr (10, [.ref (ad 0), .ref (ad 1), .ref (ad 2), .int (iv 3), .int (iv 4), .int (iv 5), .ref (ad 6), .ref (ad 7), .ref (ad 8), .ref (ad 9), .ref (ad 10), .ref (ad 11), .int (iv 12), .ref (ad 13), .ref (ad 14), .ref (ad 15), .ref (ad 16), .ref (ad 17), .ref (ad 18), .ref (ad 19), .int (iv 20), .ref (ad 21), .ref (ad 22), .ref (ad 23), .ref (ad 24), .ref (ad 25), .ref (ad 26), .ref (ad 27), .ref (ad 28), .int (iv 29), .ref (ad 30), .ref (ad 31), .int (iv 32), .int (iv 33), .int (iv 34), .int (iv 35), .long tl, .int (nI 0), .int (nI (gm_name cs (sA i0) (eA i0))), .int (nI 2), .int (nI ((gm_name cs (sA i0) (eA i0)) + 1)), .ref (ad 41), .ref (ad 42), .int (iv 43)])) := by rw [u704]; exact pd_up_s _ _ _
                      have f705 := k702 _ _ (pd_ne f698 f696 (by simp)) f698
                      have f706 := k702 _ _ (pd_ne f699 f696 (by simp)) f699
                      have f707 := k702 _ _ (pd_ne f700 f696 (by simp)) f700
                      refine lv_aload_n hx hb d_p15m16_232 rfl (lv_at hl 2 rfl) ?_
                      refine pd_get X w f703 rfl 39 (by decide) mT_1178 rfl rfl d_p15m16_233 ?_
                      refine lv_iconst (v := nI 1) hx hb d_p15m16_236 (by decide) ?_
                      refine pd_jeq (tgt := 252) hx hb d_p15m16_237 (by decide) (by decide) (by decide) (fun q => absurd q (by decide)) (fun _ => ?_)
                      refine lv_aload_n hx hb d_p15m16_240 rfl (lv_at hl 2 rfl) ?_
                      refine lv_iload_n hx hb d_p15m16_241 rfl (lv_at hl 0 rfl) ?_
                      refine lv_iconst (v := nI 1) hx hb d_p15m16_242 (by decide) ?_
                      refine pd_iadd hx hb d_p15m16_243 ?_
                      refine lv_iload_n hx hb d_p15m16_244 rfl (lv_at hl 1 rfl) ?_
                      refine pd_cV (a := y) (As := [.int (nI ((gm_name cs (sA i0) (eA i0)) + 1)), .int (nI (eA i0))]) (rest := []) X w f703 rfl (c_PolicyDeskModel_behindPart l G h701 (ad := ad) (fv := fv) (iv := pd_fu (pd_fu (pd_fu (pd_fu iv 37 (nI 0)) 38 (nI (gm_name cs (sA i0) (eA i0)))) 39 (nI 2)) 40 (nI ((gm_name cs (sA i0) (eA i0)) + 1))) (tl := tl) (pd_MO.of (fv2 := fv) (iv2 := pd_fu (pd_fu (pd_fu (pd_fu iv 37 (nI 0)) 38 (nI (gm_name cs (sA i0) (eA i0)))) 39 (nI 2)) 40 (nI ((gm_name cs (sA i0) (eA i0)) + 1))) (tl2 := tl) (ts := [20]) hMO (pd_kx.tr (pd_kx.tr (pd_kx.tr (pd_kx.tr (pd_kx.tr (pd_kx.tr (pd_kx.tr (pd_kq.kx (k2) hy0) (pd_kq.kx (k9) f3)) (pd_kq.kx (k512) f10)) (pd_kq.kx (k519) f513)) (pd_kq.kx (k677) f520)) (pd_kq.kx (k684) f678)) (pd_kq.kx (k695) f685)) (pd_kq.kx (k702) f696)) f703 (fun j hj => Or.inr ⟨fun z => by first | (simp at z; done) | (simp at z; omega), rfl⟩)) hL (by omega) (by omega)) ok_PolicyDeskModel_behindPart ⟨mT_1315, sT_19⟩ mT_1313 ⟨by decide, by decide⟩ rfl hl.1 rfl (Nat.le_of_ble_eq_true rfl) d_p15m16_245 ⟨by decide, by decide⟩ (fun r709 h710 H locs hp711 w => ?_)
                      refine W.widen (k := 0) (n := 0) (by decide) (by decide) ?_
                      obtain ⟨e712, rfl⟩ := hp711
                      have hpl := gm_part_le (cs := cs) (x := gm_name cs (sA i0) (eA i0) + 1) (to := eA i0) (by omega)
                      refine lv_iload_n hx hb d_p15m16_248 rfl (lv_at hl 1 rfl) ?_
                      refine pd_jne (tgt := 256) hx hb d_p15m16_249 (by decide) (by omega) (by omega) (fun q713 => ?_) (fun q713 => ?_)
                      · -- taken: 256
                        refine lv_iconst (v := nI 0) hx hb d_p15m16_256 (by decide) ?_
                        have hpt : gm_pt cs (gm_name cs (sA i0) (eA i0)) (eA i0) = none := by unfold gm_pt; rw [if_neg (by omega), if_neg (by omega), if_neg (by omega), if_neg (by rw [← e712]; omega)]
                        have hp : gm_pat cs (sA i0) (eA i0) = none := by unfold gm_pat; rw [hph]; simp only [hpt]
                        refine W.eq (g2 := F0 m 257 ls [.int (pd_b false)]) rfl ?_
                        exact pd_zret (v := false) X w ⟨by rw [hp]; rfl, pd_kx.tr (pd_kx.tr (pd_kx.tr (pd_kx.tr (pd_kx.tr (pd_kx.tr (pd_kx.tr (pd_kq.kx (k2) hy0) (pd_kq.kx (k9) f3)) (pd_kq.kx (k512) f10)) (pd_kq.kx (k519) f513)) (pd_kq.kx (k677) f520)) (pd_kq.kx (k684) f678)) (pd_kq.kx (k695) f685)) (pd_kq.kx (k702) f696), (nI 0), (nI (gm_name cs (sA i0) (eA i0))), (nI 2), (nI ((gm_name cs (sA i0) (eA i0)) + 1)), (pd_MO.of (fv2 := fv) (iv2 := pd_fu (pd_fu (pd_fu (pd_fu iv 37 (nI 0)) 38 (nI (gm_name cs (sA i0) (eA i0)))) 39 (nI 2)) 40 (nI ((gm_name cs (sA i0) (eA i0)) + 1))) (tl2 := tl) (ts := [20]) hMO (pd_kx.tr (pd_kx.tr (pd_kx.tr (pd_kx.tr (pd_kx.tr (pd_kx.tr (pd_kx.tr (pd_kq.kx (k2) hy0) (pd_kq.kx (k9) f3)) (pd_kq.kx (k512) f10)) (pd_kq.kx (k519) f513)) (pd_kq.kx (k677) f520)) (pd_kq.kx (k684) f678)) (pd_kq.kx (k695) f685)) (pd_kq.kx (k702) f696)) f703 (fun j hj => Or.inr ⟨fun z => by first | (simp at z; done) | (simp at z; omega), rfl⟩)), fun t9 ht9 => by rw [hp] at ht9; cases ht9⟩ (by decide) (by decide) d_p15m16_257
                      · -- not taken: 252
                        refine lv_iconst (v := nI 1) hx hb d_p15m16_252 (by decide) ?_
                        refine lv_goto (tgt := 257) hx hb d_p15m16_253 (by decide) ?_
                        have hpt : gm_pt cs (gm_name cs (sA i0) (eA i0)) (eA i0) = some (2, gm_name cs (sA i0) (eA i0) + 1) := by unfold gm_pt; rw [if_neg (by omega), if_neg (by omega), if_neg (by omega), if_pos (by rw [← e712]; omega)]
                        have hp : gm_pat cs (sA i0) (eA i0) = some (0, gm_name cs (sA i0) (eA i0), 2, gm_name cs (sA i0) (eA i0) + 1) := by unfold gm_pat; rw [hph]; simp only [hpt]
                        refine W.eq (g2 := F0 m 257 ls [.int (pd_b true)]) rfl ?_
                        exact pd_zret (v := true) X w ⟨by rw [hp]; rfl, pd_kx.tr (pd_kx.tr (pd_kx.tr (pd_kx.tr (pd_kx.tr (pd_kx.tr (pd_kx.tr (pd_kq.kx (k2) hy0) (pd_kq.kx (k9) f3)) (pd_kq.kx (k512) f10)) (pd_kq.kx (k519) f513)) (pd_kq.kx (k677) f520)) (pd_kq.kx (k684) f678)) (pd_kq.kx (k695) f685)) (pd_kq.kx (k702) f696), (nI 0), (nI (gm_name cs (sA i0) (eA i0))), (nI 2), (nI ((gm_name cs (sA i0) (eA i0)) + 1)), (pd_MO.of (fv2 := fv) (iv2 := pd_fu (pd_fu (pd_fu (pd_fu iv 37 (nI 0)) 38 (nI (gm_name cs (sA i0) (eA i0)))) 39 (nI 2)) 40 (nI ((gm_name cs (sA i0) (eA i0)) + 1))) (tl2 := tl) (ts := [20]) hMO (pd_kx.tr (pd_kx.tr (pd_kx.tr (pd_kx.tr (pd_kx.tr (pd_kx.tr (pd_kx.tr (pd_kq.kx (k2) hy0) (pd_kq.kx (k9) f3)) (pd_kq.kx (k512) f10)) (pd_kq.kx (k519) f513)) (pd_kq.kx (k677) f520)) (pd_kq.kx (k684) f678)) (pd_kq.kx (k695) f685)) (pd_kq.kx (k702) f696)) f703 (fun j hj => Or.inr ⟨fun z => by first | (simp at z; done) | (simp at z; omega), rfl⟩)), fun t9 ht9 => by rw [hp] at ht9; cases ht9; exact ⟨rfl, rfl, rfl, rfl⟩⟩ (by decide) (by decide) d_p15m16_257
                    · -- not taken: 210
                      refine lv_iload_n hx hb d_p15m16_210 rfl (lv_at hl 0 rfl) ?_
                      refine lv_iconst (v := nI 2) hx hb d_p15m16_211 (by decide) ?_
                      refine pd_iadd hx hb d_p15m16_212 ?_
                      refine lv_iload_n hx hb d_p15m16_213 rfl (lv_at hl 1 rfl) ?_
                      refine pd_jne (tgt := 221) hx hb d_p15m16_214 (by decide) (by omega) (by omega) (fun q714 => ?_) (fun q714 => ?_)
                      · -- taken: 221
                        refine lv_iconst (v := nI 2) hx hb d_p15m16_221 (by decide) ?_
                        refine pd_put (ty := .int) X w f685 hz_y rfl 39 (by decide) mT_1178 rfl rfl (by decide +kernel) rfl rfl (Nat.le_of_ble_eq_true rfl) d_p15m16_222 (fun H locs w => ?_)
                        have w : pd_w G s H locs (pd_up h683 y (20, .inr (10, [.ref (ad 0), .ref (ad 1), .ref (ad 2), .int (iv 3), .int (iv 4), .int (iv 5), .ref (ad 6), .ref (ad 7), .ref (ad 8), .ref (ad 9), .ref (ad 10), .ref (ad 11), .int (iv 12), .ref (ad 13), .ref (ad 14), .ref (ad 15), .ref (ad 16), .ref (ad 17), .ref (ad 18), .ref (ad 19), .int (iv 20), .ref (ad 21), .ref (ad 22), .ref (ad 23), .ref (ad 24), .ref (ad 25), .ref (ad 26), .ref (ad 27), .ref (ad 28), .int (iv 29), .ref (ad 30), .ref (ad 31), .int (iv 32), .int (iv 33), .int (iv 34), .int (iv 35), .long tl, .int (nI 0), .int (nI (gm_name cs (sA i0) (eA i0))), .int (nI 2), .int (nI (eA i0)), .ref (ad 41), .ref (ad 42), .int (iv 43)]))) := w
                        obtain ⟨h715, u718⟩ : ∃ z, z = pd_up h683 y (20, .inr (10, [.ref (ad 0), .ref (ad 1), .ref (ad 2), .int (iv 3), .int (iv 4), .int (iv 5), .ref (ad 6), .ref (ad 7), .ref (ad 8), .ref (ad 9), .ref (ad 10), .ref (ad 11), .int (iv 12), .ref (ad 13), .ref (ad 14), .ref (ad 15), .ref (ad 16), .ref (ad 17), .ref (ad 18), .ref (ad 19), .int (iv 20), .ref (ad 21), .ref (ad 22), .ref (ad 23), .ref (ad 24), .ref (ad 25), .ref (ad 26), .ref (ad 27), .ref (ad 28), .int (iv 29), .ref (ad 30), .ref (ad 31), .int (iv 32), .int (iv 33), .int (iv 34), .int (iv 35), .long tl, .int (nI 0), .int (nI (gm_name cs (sA i0) (eA i0))), .int (nI 2), .int (nI (eA i0)), .ref (ad 41), .ref (ad 42), .int (iv 43)])) := ⟨_, rfl⟩
                        rw [← u718] at w
                        have k716 : pd_kq y h683 h715 := by rw [u718]; exact pd_up_kq
                        have f717 : h715 y = some (20, .inr (10, [.ref (ad 0), .ref (ad 1), .ref (ad 2), .int (iv 3), .int (iv 4), .int (iv 5), .ref (ad 6), .ref (ad 7), .ref (ad 8), .ref (ad 9), .ref (ad 10), .ref (ad 11), .int (iv 12), .ref (ad 13), .ref (ad 14), .ref (ad 15), .ref (ad 16), .ref (ad 17), .ref (ad 18), .ref (ad 19), .int (iv 20), .ref (ad 21), .ref (ad 22), .ref (ad 23), .ref (ad 24), .ref (ad 25), .ref (ad 26), .ref (ad 27), .ref (ad 28), .int (iv 29), .ref (ad 30), .ref (ad 31), .int (iv 32), .int (iv 33), .int (iv 34), .int (iv 35), .long tl, .int (nI 0), .int (nI (gm_name cs (sA i0) (eA i0))), .int (nI 2), .int (nI (eA i0)), .ref (ad 41), .ref (ad 42), .int (iv 43)])) := by rw [u718]; exact pd_up_s _ _ _
                        have f719 := k716 _ _ (pd_ne f687 f685 (by simp)) f687
                        have f720 := k716 _ _ (pd_ne f688 f685 (by simp)) f688
                        have f721 := k716 _ _ (pd_ne f689 f685 (by simp)) f689
                        refine lv_aload_n hx hb d_p15m16_225 rfl (lv_at hl 2 rfl) ?_
                        refine lv_iload_n hx hb d_p15m16_226 rfl (lv_at hl 0 rfl) ?_
                        refine lv_iconst (v := nI 1) hx hb d_p15m16_227 (by decide) ?_
                        refine pd_iadd hx hb d_p15m16_228 ?_
                        refine pd_put (ty := .int) X w f717 hz_y rfl 40 (by decide) mT_1179 rfl rfl (by decide +kernel) rfl rfl (Nat.le_of_ble_eq_true rfl) d_p15m16_229 (fun H locs w => ?_)
                        have w : pd_w G s H locs (pd_up h715 y (20, .inr (10, [.ref (ad 0), .ref (ad 1), .ref (ad 2), .int (iv 3), .int (iv 4), .int (iv 5), .ref (ad 6), .ref (ad 7), .ref (ad 8), .ref (ad 9), .ref (ad 10), .ref (ad 11), .int (iv 12), .ref (ad 13), .ref (ad 14), .ref (ad 15), .ref (ad 16), .ref (ad 17), .ref (ad 18), .ref (ad 19), .int (iv 20), .ref (ad 21), .ref (ad 22), .ref (ad 23), .ref (ad 24), .ref (ad 25), .ref (ad 26), .ref (ad 27), .ref (ad 28), .int (iv 29), .ref (ad 30), .ref (ad 31), .int (iv 32), .int (iv 33), .int (iv 34), .int (iv 35), .long tl, .int (nI 0), .int (nI (gm_name cs (sA i0) (eA i0))), .int (nI 2), .int (nI ((gm_name cs (sA i0) (eA i0)) + 1)), .ref (ad 41), .ref (ad 42), .int (iv 43)]))) := w
                        obtain ⟨h722, u725⟩ : ∃ z, z = pd_up h715 y (20, .inr (10, [.ref (ad 0), .ref (ad 1), .ref (ad 2), .int (iv 3), .int (iv 4), .int (iv 5), .ref (ad 6), .ref (ad 7), .ref (ad 8), .ref (ad 9), .ref (ad 10), .ref (ad 11), .int (iv 12), .ref (ad 13), .ref (ad 14), .ref (ad 15), .ref (ad 16), .ref (ad 17), .ref (ad 18), .ref (ad 19), .int (iv 20), .ref (ad 21), .ref (ad 22), .ref (ad 23), .ref (ad 24), .ref (ad 25), .ref (ad 26), .ref (ad 27), .ref (ad 28), .int (iv 29), .ref (ad 30), .ref (ad 31), .int (iv 32), .int (iv 33), .int (iv 34), .int (iv 35), .long tl, .int (nI 0), .int (nI (gm_name cs (sA i0) (eA i0))), .int (nI 2), .int (nI ((gm_name cs (sA i0) (eA i0)) + 1)), .ref (ad 41), .ref (ad 42), .int (iv 43)])) := ⟨_, rfl⟩
                        rw [← u725] at w
                        have k723 : pd_kq y h715 h722 := by rw [u725]; exact pd_up_kq
                        have f724 : h722 y = some (20, .inr (10, [.ref (ad 0), .ref (ad 1), .ref (ad 2), .int (iv 3), .int (iv 4), .int (iv 5), .ref (ad 6), .ref (ad 7), .ref (ad 8), .ref (ad 9), .ref (ad 10), .ref (ad 11), .int (iv 12), .ref (ad 13), .ref (ad 14), .ref (ad 15), .ref (ad 16), .ref (ad 17), .ref (ad 18), .ref (ad 19), .int (iv 20), .ref (ad 21), .ref (ad 22), .ref (ad 23), .ref (ad 24), .ref (ad 25), .ref (ad 26), .ref (ad 27), .ref (ad 28), .int (iv 29), .ref (ad 30), .ref (ad 31), .int (iv 32), .int (iv 33), .int (iv 34), .int (iv 35), .long tl, .int (nI 0), .int (nI (gm_name cs (sA i0) (eA i0))), .int (nI 2), .int (nI ((gm_name cs (sA i0) (eA i0)) + 1)), .ref (ad 41), .ref (ad 42), .int (iv 43)])) := by rw [u725]; exact pd_up_s _ _ _
                        have f726 := k723 _ _ (pd_ne f719 f717 (by simp)) f719
                        have f727 := k723 _ _ (pd_ne f720 f717 (by simp)) f720
                        have f728 := k723 _ _ (pd_ne f721 f717 (by simp)) f721
                        refine lv_aload_n hx hb d_p15m16_232 rfl (lv_at hl 2 rfl) ?_
                        refine pd_get X w f724 rfl 39 (by decide) mT_1178 rfl rfl d_p15m16_233 ?_
                        refine lv_iconst (v := nI 1) hx hb d_p15m16_236 (by decide) ?_
                        refine pd_jeq (tgt := 252) hx hb d_p15m16_237 (by decide) (by decide) (by decide) (fun q => absurd q (by decide)) (fun _ => ?_)
                        refine lv_aload_n hx hb d_p15m16_240 rfl (lv_at hl 2 rfl) ?_
                        refine lv_iload_n hx hb d_p15m16_241 rfl (lv_at hl 0 rfl) ?_
                        refine lv_iconst (v := nI 1) hx hb d_p15m16_242 (by decide) ?_
                        refine pd_iadd hx hb d_p15m16_243 ?_
                        refine lv_iload_n hx hb d_p15m16_244 rfl (lv_at hl 1 rfl) ?_
                        refine pd_cV (a := y) (As := [.int (nI ((gm_name cs (sA i0) (eA i0)) + 1)), .int (nI (eA i0))]) (rest := []) X w f724 rfl (c_PolicyDeskModel_behindPart l G h722 (ad := ad) (fv := fv) (iv := pd_fu (pd_fu (pd_fu (pd_fu iv 37 (nI 0)) 38 (nI (gm_name cs (sA i0) (eA i0)))) 39 (nI 2)) 40 (nI ((gm_name cs (sA i0) (eA i0)) + 1))) (tl := tl) (pd_MO.of (fv2 := fv) (iv2 := pd_fu (pd_fu (pd_fu (pd_fu iv 37 (nI 0)) 38 (nI (gm_name cs (sA i0) (eA i0)))) 39 (nI 2)) 40 (nI ((gm_name cs (sA i0) (eA i0)) + 1))) (tl2 := tl) (ts := [20]) hMO (pd_kx.tr (pd_kx.tr (pd_kx.tr (pd_kx.tr (pd_kx.tr (pd_kx.tr (pd_kx.tr (pd_kq.kx (k2) hy0) (pd_kq.kx (k9) f3)) (pd_kq.kx (k512) f10)) (pd_kq.kx (k519) f513)) (pd_kq.kx (k677) f520)) (pd_kq.kx (k684) f678)) (pd_kq.kx (k716) f685)) (pd_kq.kx (k723) f717)) f724 (fun j hj => Or.inr ⟨fun z => by first | (simp at z; done) | (simp at z; omega), rfl⟩)) hL (by omega) (by omega)) ok_PolicyDeskModel_behindPart ⟨mT_1315, sT_19⟩ mT_1313 ⟨by decide, by decide⟩ rfl hl.1 rfl (Nat.le_of_ble_eq_true rfl) d_p15m16_245 ⟨by decide, by decide⟩ (fun r730 h731 H locs hp732 w => ?_)
                        refine W.widen (k := 0) (n := 0) (by decide) (by decide) ?_
                        obtain ⟨e733, rfl⟩ := hp732
                        have hpl := gm_part_le (cs := cs) (x := gm_name cs (sA i0) (eA i0) + 1) (to := eA i0) (by omega)
                        refine lv_iload_n hx hb d_p15m16_248 rfl (lv_at hl 1 rfl) ?_
                        refine pd_jne (tgt := 256) hx hb d_p15m16_249 (by decide) (by omega) (by omega) (fun q734 => ?_) (fun q734 => ?_)
                        · -- taken: 256
                          refine lv_iconst (v := nI 0) hx hb d_p15m16_256 (by decide) ?_
                          have hpt : gm_pt cs (gm_name cs (sA i0) (eA i0)) (eA i0) = none := by unfold gm_pt; rw [if_neg (by omega), if_neg (by omega), if_neg (by omega), if_neg (by rw [← e733]; omega)]
                          have hp : gm_pat cs (sA i0) (eA i0) = none := by unfold gm_pat; rw [hph]; simp only [hpt]
                          refine W.eq (g2 := F0 m 257 ls [.int (pd_b false)]) rfl ?_
                          exact pd_zret (v := false) X w ⟨by rw [hp]; rfl, pd_kx.tr (pd_kx.tr (pd_kx.tr (pd_kx.tr (pd_kx.tr (pd_kx.tr (pd_kx.tr (pd_kq.kx (k2) hy0) (pd_kq.kx (k9) f3)) (pd_kq.kx (k512) f10)) (pd_kq.kx (k519) f513)) (pd_kq.kx (k677) f520)) (pd_kq.kx (k684) f678)) (pd_kq.kx (k716) f685)) (pd_kq.kx (k723) f717), (nI 0), (nI (gm_name cs (sA i0) (eA i0))), (nI 2), (nI ((gm_name cs (sA i0) (eA i0)) + 1)), (pd_MO.of (fv2 := fv) (iv2 := pd_fu (pd_fu (pd_fu (pd_fu iv 37 (nI 0)) 38 (nI (gm_name cs (sA i0) (eA i0)))) 39 (nI 2)) 40 (nI ((gm_name cs (sA i0) (eA i0)) + 1))) (tl2 := tl) (ts := [20]) hMO (pd_kx.tr (pd_kx.tr (pd_kx.tr (pd_kx.tr (pd_kx.tr (pd_kx.tr (pd_kx.tr (pd_kq.kx (k2) hy0) (pd_kq.kx (k9) f3)) (pd_kq.kx (k512) f10)) (pd_kq.kx (k519) f513)) (pd_kq.kx (k677) f520)) (pd_kq.kx (k684) f678)) (pd_kq.kx (k716) f685)) (pd_kq.kx (k723) f717)) f724 (fun j hj => Or.inr ⟨fun z => by first | (simp at z; done) | (simp at z; omega), rfl⟩)), fun t9 ht9 => by rw [hp] at ht9; cases ht9⟩ (by decide) (by decide) d_p15m16_257
                        · -- not taken: 252
                          refine lv_iconst (v := nI 1) hx hb d_p15m16_252 (by decide) ?_
                          refine lv_goto (tgt := 257) hx hb d_p15m16_253 (by decide) ?_
                          have hpt : gm_pt cs (gm_name cs (sA i0) (eA i0)) (eA i0) = some (2, gm_name cs (sA i0) (eA i0) + 1) := by unfold gm_pt; rw [if_neg (by omega), if_neg (by omega), if_neg (by omega), if_pos (by rw [← e733]; omega)]
                          have hp : gm_pat cs (sA i0) (eA i0) = some (0, gm_name cs (sA i0) (eA i0), 2, gm_name cs (sA i0) (eA i0) + 1) := by unfold gm_pat; rw [hph]; simp only [hpt]
                          refine W.eq (g2 := F0 m 257 ls [.int (pd_b true)]) rfl ?_
                          exact pd_zret (v := true) X w ⟨by rw [hp]; rfl, pd_kx.tr (pd_kx.tr (pd_kx.tr (pd_kx.tr (pd_kx.tr (pd_kx.tr (pd_kx.tr (pd_kq.kx (k2) hy0) (pd_kq.kx (k9) f3)) (pd_kq.kx (k512) f10)) (pd_kq.kx (k519) f513)) (pd_kq.kx (k677) f520)) (pd_kq.kx (k684) f678)) (pd_kq.kx (k716) f685)) (pd_kq.kx (k723) f717), (nI 0), (nI (gm_name cs (sA i0) (eA i0))), (nI 2), (nI ((gm_name cs (sA i0) (eA i0)) + 1)), (pd_MO.of (fv2 := fv) (iv2 := pd_fu (pd_fu (pd_fu (pd_fu iv 37 (nI 0)) 38 (nI (gm_name cs (sA i0) (eA i0)))) 39 (nI 2)) 40 (nI ((gm_name cs (sA i0) (eA i0)) + 1))) (tl2 := tl) (ts := [20]) hMO (pd_kx.tr (pd_kx.tr (pd_kx.tr (pd_kx.tr (pd_kx.tr (pd_kx.tr (pd_kx.tr (pd_kq.kx (k2) hy0) (pd_kq.kx (k9) f3)) (pd_kq.kx (k512) f10)) (pd_kq.kx (k519) f513)) (pd_kq.kx (k677) f520)) (pd_kq.kx (k684) f678)) (pd_kq.kx (k716) f685)) (pd_kq.kx (k723) f717)) f724 (fun j hj => Or.inr ⟨fun z => by first | (simp at z; done) | (simp at z; omega), rfl⟩)), fun t9 ht9 => by rw [hp] at ht9; cases ht9; exact ⟨rfl, rfl, rfl, rfl⟩⟩ (by decide) (by decide) d_p15m16_257
                      · -- not taken: 217
                        refine lv_iconst (v := nI 1) hx hb d_p15m16_217 (by decide) ?_
                        refine lv_goto (tgt := 222) hx hb d_p15m16_218 (by decide) ?_
                        refine pd_put (ty := .int) X w f685 hz_y rfl 39 (by decide) mT_1178 rfl rfl (by decide +kernel) rfl rfl (Nat.le_of_ble_eq_true rfl) d_p15m16_222 (fun H locs w => ?_)
                        have w : pd_w G s H locs (pd_up h683 y (20, .inr (10, [.ref (ad 0), .ref (ad 1), .ref (ad 2), .int (iv 3), .int (iv 4), .int (iv 5), .ref (ad 6), .ref (ad 7), .ref (ad 8), .ref (ad 9), .ref (ad 10), .ref (ad 11), .int (iv 12), .ref (ad 13), .ref (ad 14), .ref (ad 15), .ref (ad 16), .ref (ad 17), .ref (ad 18), .ref (ad 19), .int (iv 20), .ref (ad 21), .ref (ad 22), .ref (ad 23), .ref (ad 24), .ref (ad 25), .ref (ad 26), .ref (ad 27), .ref (ad 28), .int (iv 29), .ref (ad 30), .ref (ad 31), .int (iv 32), .int (iv 33), .int (iv 34), .int (iv 35), .long tl, .int (nI 0), .int (nI (gm_name cs (sA i0) (eA i0))), .int (nI 1), .int (nI (eA i0)), .ref (ad 41), .ref (ad 42), .int (iv 43)]))) := w
                        obtain ⟨h735, u738⟩ : ∃ z, z = pd_up h683 y (20, .inr (10, [.ref (ad 0), .ref (ad 1), .ref (ad 2), .int (iv 3), .int (iv 4), .int (iv 5), .ref (ad 6), .ref (ad 7), .ref (ad 8), .ref (ad 9), .ref (ad 10), .ref (ad 11), .int (iv 12), .ref (ad 13), .ref (ad 14), .ref (ad 15), .ref (ad 16), .ref (ad 17), .ref (ad 18), .ref (ad 19), .int (iv 20), .ref (ad 21), .ref (ad 22), .ref (ad 23), .ref (ad 24), .ref (ad 25), .ref (ad 26), .ref (ad 27), .ref (ad 28), .int (iv 29), .ref (ad 30), .ref (ad 31), .int (iv 32), .int (iv 33), .int (iv 34), .int (iv 35), .long tl, .int (nI 0), .int (nI (gm_name cs (sA i0) (eA i0))), .int (nI 1), .int (nI (eA i0)), .ref (ad 41), .ref (ad 42), .int (iv 43)])) := ⟨_, rfl⟩
                        rw [← u738] at w
                        have k736 : pd_kq y h683 h735 := by rw [u738]; exact pd_up_kq
                        have f737 : h735 y = some (20, .inr (10, [.ref (ad 0), .ref (ad 1), .ref (ad 2), .int (iv 3), .int (iv 4), .int (iv 5), .ref (ad 6), .ref (ad 7), .ref (ad 8), .ref (ad 9), .ref (ad 10), .ref (ad 11), .int (iv 12), .ref (ad 13), .ref (ad 14), .ref (ad 15), .ref (ad 16), .ref (ad 17), .ref (ad 18), .ref (ad 19), .int (iv 20), .ref (ad 21), .ref (ad 22), .ref (ad 23), .ref (ad 24), .ref (ad 25), .ref (ad 26), .ref (ad 27), .ref (ad 28), .int (iv 29), .ref (ad 30), .ref (ad 31), .int (iv 32), .int (iv 33), .int (iv 34), .int (iv 35), .long tl, .int (nI 0), .int (nI (gm_name cs (sA i0) (eA i0))), .int (nI 1), .int (nI (eA i0)), .ref (ad 41), .ref (ad 42), .int (iv 43)])) := by rw [u738]; exact pd_up_s _ _ _
                        have f739 := k736 _ _ (pd_ne f687 f685 (by simp)) f687
                        have f740 := k736 _ _ (pd_ne f688 f685 (by simp)) f688
                        have f741 := k736 _ _ (pd_ne f689 f685 (by simp)) f689
                        refine lv_aload_n hx hb d_p15m16_225 rfl (lv_at hl 2 rfl) ?_
                        refine lv_iload_n hx hb d_p15m16_226 rfl (lv_at hl 0 rfl) ?_
                        refine lv_iconst (v := nI 1) hx hb d_p15m16_227 (by decide) ?_
                        refine pd_iadd hx hb d_p15m16_228 ?_
                        refine pd_put (ty := .int) X w f737 hz_y rfl 40 (by decide) mT_1179 rfl rfl (by decide +kernel) rfl rfl (Nat.le_of_ble_eq_true rfl) d_p15m16_229 (fun H locs w => ?_)
                        have w : pd_w G s H locs (pd_up h735 y (20, .inr (10, [.ref (ad 0), .ref (ad 1), .ref (ad 2), .int (iv 3), .int (iv 4), .int (iv 5), .ref (ad 6), .ref (ad 7), .ref (ad 8), .ref (ad 9), .ref (ad 10), .ref (ad 11), .int (iv 12), .ref (ad 13), .ref (ad 14), .ref (ad 15), .ref (ad 16), .ref (ad 17), .ref (ad 18), .ref (ad 19), .int (iv 20), .ref (ad 21), .ref (ad 22), .ref (ad 23), .ref (ad 24), .ref (ad 25), .ref (ad 26), .ref (ad 27), .ref (ad 28), .int (iv 29), .ref (ad 30), .ref (ad 31), .int (iv 32), .int (iv 33), .int (iv 34), .int (iv 35), .long tl, .int (nI 0), .int (nI (gm_name cs (sA i0) (eA i0))), .int (nI 1), .int (nI ((gm_name cs (sA i0) (eA i0)) + 1)), .ref (ad 41), .ref (ad 42), .int (iv 43)]))) := w
                        obtain ⟨h742, u745⟩ : ∃ z, z = pd_up h735 y (20, .inr (10, [.ref (ad 0), .ref (ad 1), .ref (ad 2), .int (iv 3), .int (iv 4), .int (iv 5), .ref (ad 6), .ref (ad 7), .ref (ad 8), .ref (ad 9), .ref (ad 10), .ref (ad 11), .int (iv 12), .ref (ad 13), .ref (ad 14), .ref (ad 15), .ref (ad 16), .ref (ad 17), .ref (ad 18), .ref (ad 19), .int (iv 20), .ref (ad 21), .ref (ad 22), .ref (ad 23), .ref (ad 24), .ref (ad 25), .ref (ad 26), .ref (ad 27), .ref (ad 28), .int (iv 29), .ref (ad 30), .ref (ad 31), .int (iv 32), .int (iv 33), .int (iv 34), .int (iv 35), .long tl, .int (nI 0), .int (nI (gm_name cs (sA i0) (eA i0))), .int (nI 1), .int (nI ((gm_name cs (sA i0) (eA i0)) + 1)), .ref (ad 41), .ref (ad 42), .int (iv 43)])) := ⟨_, rfl⟩
                        rw [← u745] at w
                        have k743 : pd_kq y h735 h742 := by rw [u745]; exact pd_up_kq
                        have f744 : h742 y = some (20, .inr (10, [.ref (ad 0), .ref (ad 1), .ref (ad 2), .int (iv 3), .int (iv 4), .int (iv 5), .ref (ad 6), .ref (ad 7), .ref (ad 8), .ref (ad 9), .ref (ad 10), .ref (ad 11), .int (iv 12), .ref (ad 13), .ref (ad 14), .ref (ad 15), .ref (ad 16), .ref (ad 17), .ref (ad 18), .ref (ad 19), .int (iv 20), .ref (ad 21), .ref (ad 22), .ref (ad 23), .ref (ad 24), .ref (ad 25), .ref (ad 26), .ref (ad 27), .ref (ad 28), .int (iv 29), .ref (ad 30), .ref (ad 31), .int (iv 32), .int (iv 33), .int (iv 34), .int (iv 35), .long tl, .int (nI 0), .int (nI (gm_name cs (sA i0) (eA i0))), .int (nI 1), .int (nI ((gm_name cs (sA i0) (eA i0)) + 1)), .ref (ad 41), .ref (ad 42), .int (iv 43)])) := by rw [u745]; exact pd_up_s _ _ _
                        have f746 := k743 _ _ (pd_ne f739 f737 (by simp)) f739
                        have f747 := k743 _ _ (pd_ne f740 f737 (by simp)) f740
                        have f748 := k743 _ _ (pd_ne f741 f737 (by simp)) f741
                        refine lv_aload_n hx hb d_p15m16_232 rfl (lv_at hl 2 rfl) ?_
                        refine pd_get X w f744 rfl 39 (by decide) mT_1178 rfl rfl d_p15m16_233 ?_
                        refine lv_iconst (v := nI 1) hx hb d_p15m16_236 (by decide) ?_
                        refine pd_jeq (tgt := 252) hx hb d_p15m16_237 (by decide) (by decide) (by decide) (fun _ => ?_) (fun q => absurd q (by decide))
                        refine lv_iconst (v := nI 1) hx hb d_p15m16_252 (by decide) ?_
                        refine lv_goto (tgt := 257) hx hb d_p15m16_253 (by decide) ?_
                        have hpt : gm_pt cs (gm_name cs (sA i0) (eA i0)) (eA i0) = some (1, gm_name cs (sA i0) (eA i0) + 1) := by unfold gm_pt; rw [if_neg (by omega), if_neg (by omega), if_pos (by omega)]
                        have hp : gm_pat cs (sA i0) (eA i0) = some (0, gm_name cs (sA i0) (eA i0), 1, gm_name cs (sA i0) (eA i0) + 1) := by unfold gm_pat; rw [hph]; simp only [hpt]
                        refine W.eq (g2 := F0 m 257 ls [.int (pd_b true)]) rfl ?_
                        exact pd_zret (v := true) X w ⟨by rw [hp]; rfl, pd_kx.tr (pd_kx.tr (pd_kx.tr (pd_kx.tr (pd_kx.tr (pd_kx.tr (pd_kx.tr (pd_kq.kx (k2) hy0) (pd_kq.kx (k9) f3)) (pd_kq.kx (k512) f10)) (pd_kq.kx (k519) f513)) (pd_kq.kx (k677) f520)) (pd_kq.kx (k684) f678)) (pd_kq.kx (k736) f685)) (pd_kq.kx (k743) f737), (nI 0), (nI (gm_name cs (sA i0) (eA i0))), (nI 1), (nI ((gm_name cs (sA i0) (eA i0)) + 1)), (pd_MO.of (fv2 := fv) (iv2 := pd_fu (pd_fu (pd_fu (pd_fu iv 37 (nI 0)) 38 (nI (gm_name cs (sA i0) (eA i0)))) 39 (nI 1)) 40 (nI ((gm_name cs (sA i0) (eA i0)) + 1))) (tl2 := tl) (ts := [20]) hMO (pd_kx.tr (pd_kx.tr (pd_kx.tr (pd_kx.tr (pd_kx.tr (pd_kx.tr (pd_kx.tr (pd_kq.kx (k2) hy0) (pd_kq.kx (k9) f3)) (pd_kq.kx (k512) f10)) (pd_kq.kx (k519) f513)) (pd_kq.kx (k677) f520)) (pd_kq.kx (k684) f678)) (pd_kq.kx (k736) f685)) (pd_kq.kx (k743) f737)) f744 (fun j hj => Or.inr ⟨fun z => by first | (simp at z; done) | (simp at z; omega), rfl⟩)), fun t9 ht9 => by rw [hp] at ht9; cases ht9; exact ⟨rfl, rfl, rfl, rfl⟩⟩ (by decide) (by decide) d_p15m16_257
                  · -- not taken: 194
                    refine lv_iconst (v := nI 0) hx hb d_p15m16_194 (by decide) ?_
                    have hpt : gm_pt cs (gm_name cs (sA i0) (eA i0)) (eA i0) = none := by unfold gm_pt; rw [if_neg (by omega), if_pos (by omega)]
                    have hp : gm_pat cs (sA i0) (eA i0) = none := by unfold gm_pat; rw [hph]; simp only [hpt]
                    refine W.eq (g2 := F0 m 195 ls [.int (pd_b false)]) rfl ?_
                    exact pd_zret (v := false) X w ⟨by rw [hp]; rfl, pd_kx.tr (pd_kx.tr (pd_kx.tr (pd_kx.tr (pd_kx.tr (pd_kq.kx (k2) hy0) (pd_kq.kx (k9) f3)) (pd_kq.kx (k512) f10)) (pd_kq.kx (k519) f513)) (pd_kq.kx (k677) f520)) (pd_kq.kx (k684) f678), (nI 0), (nI (gm_name cs (sA i0) (eA i0))), (nI 0), (nI (eA i0)), (pd_MO.of (fv2 := fv) (iv2 := pd_fu (pd_fu (pd_fu (pd_fu iv 37 (nI 0)) 38 (nI (gm_name cs (sA i0) (eA i0)))) 39 (nI 0)) 40 (nI (eA i0))) (tl2 := tl) (ts := [20]) hMO (pd_kx.tr (pd_kx.tr (pd_kx.tr (pd_kx.tr (pd_kx.tr (pd_kq.kx (k2) hy0) (pd_kq.kx (k9) f3)) (pd_kq.kx (k512) f10)) (pd_kq.kx (k519) f513)) (pd_kq.kx (k677) f520)) (pd_kq.kx (k684) f678)) f685 (fun j hj => Or.inr ⟨fun z => by first | (simp at z; done) | (simp at z; omega), rfl⟩)), fun t9 ht9 => by rw [hp] at ht9; cases ht9⟩ (by decide) (by decide) d_p15m16_195
              · -- not taken: 174
                refine lv_iconst (v := nI 1) hx hb d_p15m16_174 (by decide) ?_
                have hpt : gm_pt cs (gm_name cs (sA i0) (eA i0)) (eA i0) = some (0, eA i0) := by unfold gm_pt; rw [if_pos (by omega)]
                have hp : gm_pat cs (sA i0) (eA i0) = some (0, gm_name cs (sA i0) (eA i0), 0, eA i0) := by unfold gm_pat; rw [hph]; simp only [hpt]
                refine W.eq (g2 := F0 m 175 ls [.int (pd_b true)]) rfl ?_
                exact pd_zret (v := true) X w ⟨by rw [hp]; rfl, pd_kx.tr (pd_kx.tr (pd_kx.tr (pd_kx.tr (pd_kx.tr (pd_kq.kx (k2) hy0) (pd_kq.kx (k9) f3)) (pd_kq.kx (k512) f10)) (pd_kq.kx (k519) f513)) (pd_kq.kx (k677) f520)) (pd_kq.kx (k684) f678), (nI 0), (nI (gm_name cs (sA i0) (eA i0))), (nI 0), (nI (eA i0)), (pd_MO.of (fv2 := fv) (iv2 := pd_fu (pd_fu (pd_fu (pd_fu iv 37 (nI 0)) 38 (nI (gm_name cs (sA i0) (eA i0)))) 39 (nI 0)) 40 (nI (eA i0))) (tl2 := tl) (ts := [20]) hMO (pd_kx.tr (pd_kx.tr (pd_kx.tr (pd_kx.tr (pd_kx.tr (pd_kq.kx (k2) hy0) (pd_kq.kx (k9) f3)) (pd_kq.kx (k512) f10)) (pd_kq.kx (k519) f513)) (pd_kq.kx (k677) f520)) (pd_kq.kx (k684) f678)) f685 (fun j hj => Or.inr ⟨fun z => by first | (simp at z; done) | (simp at z; omega), rfl⟩)), fun t9 ht9 => by rw [hp] at ht9; cases ht9; exact ⟨rfl, rfl, rfl, rfl⟩⟩ (by decide) (by decide) d_p15m16_175
            · -- not taken: 121
              refine lv_aload_n hx hb d_p15m16_121 rfl (lv_at hl 2 rfl) ?_
              refine lv_iload_n hx hb d_p15m16_122 rfl (lv_at hl 0 rfl) ?_
              refine lv_iconst (v := nI 2) hx hb d_p15m16_123 (by decide) ?_
              refine pd_iadd hx hb d_p15m16_124 ?_
              refine lv_iload_n hx hb d_p15m16_125 rfl (lv_at hl 1 rfl) ?_
              refine pd_jge (tgt := 146) hx hb d_p15m16_126 (by decide) (by omega) (by omega) (fun q750 => ?_) (fun q750 => ?_)
              · -- taken: 146
                refine lv_iconst (v := nI 1) hx hb d_p15m16_146 (by decide) ?_
                refine pd_put (ty := .int) X w f520 hz_y rfl 37 (by decide) mT_1176 rfl rfl (by decide +kernel) rfl rfl (Nat.le_of_ble_eq_true rfl) d_p15m16_147 (fun H locs w => ?_)
                have w : pd_w G s H locs (pd_up h518 y (20, .inr (10, [.ref (ad 0), .ref (ad 1), .ref (ad 2), .int (iv 3), .int (iv 4), .int (iv 5), .ref (ad 6), .ref (ad 7), .ref (ad 8), .ref (ad 9), .ref (ad 10), .ref (ad 11), .int (iv 12), .ref (ad 13), .ref (ad 14), .ref (ad 15), .ref (ad 16), .ref (ad 17), .ref (ad 18), .ref (ad 19), .int (iv 20), .ref (ad 21), .ref (ad 22), .ref (ad 23), .ref (ad 24), .ref (ad 25), .ref (ad 26), .ref (ad 27), .ref (ad 28), .int (iv 29), .ref (ad 30), .ref (ad 31), .int (iv 32), .int (iv 33), .int (iv 34), .int (iv 35), .long tl, .int (nI 1), .int (nI (gm_name cs (sA i0) (eA i0))), .int (iv 39), .int (iv 40), .ref (ad 41), .ref (ad 42), .int (iv 43)]))) := w
                obtain ⟨h751, u754⟩ : ∃ z, z = pd_up h518 y (20, .inr (10, [.ref (ad 0), .ref (ad 1), .ref (ad 2), .int (iv 3), .int (iv 4), .int (iv 5), .ref (ad 6), .ref (ad 7), .ref (ad 8), .ref (ad 9), .ref (ad 10), .ref (ad 11), .int (iv 12), .ref (ad 13), .ref (ad 14), .ref (ad 15), .ref (ad 16), .ref (ad 17), .ref (ad 18), .ref (ad 19), .int (iv 20), .ref (ad 21), .ref (ad 22), .ref (ad 23), .ref (ad 24), .ref (ad 25), .ref (ad 26), .ref (ad 27), .ref (ad 28), .int (iv 29), .ref (ad 30), .ref (ad 31), .int (iv 32), .int (iv 33), .int (iv 34), .int (iv 35), .long tl, .int (nI 1), .int (nI (gm_name cs (sA i0) (eA i0))), .int (iv 39), .int (iv 40), .ref (ad 41), .ref (ad 42), .int (iv 43)])) := ⟨_, rfl⟩
                rw [← u754] at w
                have k752 : pd_kq y h518 h751 := by rw [u754]; exact pd_up_kq
                have f753 : h751 y = some (20, .inr (10, [.ref (ad 0), .ref (ad 1), .ref (ad 2), .int (iv 3), .int (iv 4), .int (iv 5), .ref (ad 6), .ref (ad 7), .ref (ad 8), .ref (ad 9), .ref (ad 10), .ref (ad 11), .int (iv 12), .ref (ad 13), .ref (ad 14), .ref (ad 15), .ref (ad 16), .ref (ad 17), .ref (ad 18), .ref (ad 19), .int (iv 20), .ref (ad 21), .ref (ad 22), .ref (ad 23), .ref (ad 24), .ref (ad 25), .ref (ad 26), .ref (ad 27), .ref (ad 28), .int (iv 29), .ref (ad 30), .ref (ad 31), .int (iv 32), .int (iv 33), .int (iv 34), .int (iv 35), .long tl, .int (nI 1), .int (nI (gm_name cs (sA i0) (eA i0))), .int (iv 39), .int (iv 40), .ref (ad 41), .ref (ad 42), .int (iv 43)])) := by rw [u754]; exact pd_up_s _ _ _
                have f755 := k752 _ _ (pd_ne f522 f520 (by simp)) f522
                have f756 := k752 _ _ (pd_ne f523 f520 (by simp)) f523
                have f757 := k752 _ _ (pd_ne f524 f520 (by simp)) f524
                refine lv_iload_n hx hb d_p15m16_150 rfl (lv_at hl 0 rfl) ?_
                refine lv_iconst (v := nI 1) hx hb d_p15m16_151 (by decide) ?_
                refine lv_aload_n hx hb d_p15m16_152 rfl (lv_at hl 2 rfl) ?_
                refine pd_get X w f753 rfl 37 (by decide) mT_1176 rfl rfl d_p15m16_153 ?_
                refine pd_iadd hx hb d_p15m16_156 ?_
                refine pd_iadd hx hb d_p15m16_157 ?_
                refine lv_istore_n (lv' := [(2, .int (nI ((gm_name cs (sA i0) (eA i0)) + 2))), (3, .int (nI (eA i0))), (0, .ref y), (1, .int (nI i0))]) hx hb d_p15m16_158 rfl hl (by decide) rfl (fun ls hl => ?_)
                have hph : gm_ph cs (sA i0) (eA i0) = some (1, gm_name cs (sA i0) (eA i0), (gm_name cs (sA i0) (eA i0)) + 2) := by unfold gm_ph; rw [if_neg (by omega), if_neg (by omega), if_pos (by omega), if_neg (by omega)]
                refine lv_aload_n hx hb d_p15m16_159 rfl (lv_at hl 2 rfl) ?_
                refine lv_iconst (v := nI 0) hx hb d_p15m16_160 (by decide) ?_
                refine pd_put (ty := .int) X w f753 hz_y rfl 39 (by decide) mT_1178 rfl rfl (by decide +kernel) rfl rfl (Nat.le_of_ble_eq_true rfl) d_p15m16_161 (fun H locs w => ?_)
                have w : pd_w G s H locs (pd_up h751 y (20, .inr (10, [.ref (ad 0), .ref (ad 1), .ref (ad 2), .int (iv 3), .int (iv 4), .int (iv 5), .ref (ad 6), .ref (ad 7), .ref (ad 8), .ref (ad 9), .ref (ad 10), .ref (ad 11), .int (iv 12), .ref (ad 13), .ref (ad 14), .ref (ad 15), .ref (ad 16), .ref (ad 17), .ref (ad 18), .ref (ad 19), .int (iv 20), .ref (ad 21), .ref (ad 22), .ref (ad 23), .ref (ad 24), .ref (ad 25), .ref (ad 26), .ref (ad 27), .ref (ad 28), .int (iv 29), .ref (ad 30), .ref (ad 31), .int (iv 32), .int (iv 33), .int (iv 34), .int (iv 35), .long tl, .int (nI 1), .int (nI (gm_name cs (sA i0) (eA i0))), .int (nI 0), .int (iv 40), .ref (ad 41), .ref (ad 42), .int (iv 43)]))) := w
                obtain ⟨h758, u761⟩ : ∃ z, z = pd_up h751 y (20, .inr (10, [.ref (ad 0), .ref (ad 1), .ref (ad 2), .int (iv 3), .int (iv 4), .int (iv 5), .ref (ad 6), .ref (ad 7), .ref (ad 8), .ref (ad 9), .ref (ad 10), .ref (ad 11), .int (iv 12), .ref (ad 13), .ref (ad 14), .ref (ad 15), .ref (ad 16), .ref (ad 17), .ref (ad 18), .ref (ad 19), .int (iv 20), .ref (ad 21), .ref (ad 22), .ref (ad 23), .ref (ad 24), .ref (ad 25), .ref (ad 26), .ref (ad 27), .ref (ad 28), .int (iv 29), .ref (ad 30), .ref (ad 31), .int (iv 32), .int (iv 33), .int (iv 34), .int (iv 35), .long tl, .int (nI 1), .int (nI (gm_name cs (sA i0) (eA i0))), .int (nI 0), .int (iv 40), .ref (ad 41), .ref (ad 42), .int (iv 43)])) := ⟨_, rfl⟩
                rw [← u761] at w
                have k759 : pd_kq y h751 h758 := by rw [u761]; exact pd_up_kq
                have f760 : h758 y = some (20, .inr (10, [.ref (ad 0), .ref (ad 1), .ref (ad 2), .int (iv 3), .int (iv 4), .int (iv 5), .ref (ad 6), .ref (ad 7), .ref (ad 8), .ref (ad 9), .ref (ad 10), .ref (ad 11), .int (iv 12), .ref (ad 13), .ref (ad 14), .ref (ad 15), .ref (ad 16), .ref (ad 17), .ref (ad 18), .ref (ad 19), .int (iv 20), .ref (ad 21), .ref (ad 22), .ref (ad 23), .ref (ad 24), .ref (ad 25), .ref (ad 26), .ref (ad 27), .ref (ad 28), .int (iv 29), .ref (ad 30), .ref (ad 31), .int (iv 32), .int (iv 33), .int (iv 34), .int (iv 35), .long tl, .int (nI 1), .int (nI (gm_name cs (sA i0) (eA i0))), .int (nI 0), .int (iv 40), .ref (ad 41), .ref (ad 42), .int (iv 43)])) := by rw [u761]; exact pd_up_s _ _ _
                have f762 := k759 _ _ (pd_ne f755 f753 (by simp)) f755
                have f763 := k759 _ _ (pd_ne f756 f753 (by simp)) f756
                have f764 := k759 _ _ (pd_ne f757 f753 (by simp)) f757
                refine lv_aload_n hx hb d_p15m16_164 rfl (lv_at hl 2 rfl) ?_
                refine lv_iload_n hx hb d_p15m16_165 rfl (lv_at hl 1 rfl) ?_
                refine pd_put (ty := .int) X w f760 hz_y rfl 40 (by decide) mT_1179 rfl rfl (by decide +kernel) rfl rfl (Nat.le_of_ble_eq_true rfl) d_p15m16_166 (fun H locs w => ?_)
                have w : pd_w G s H locs (pd_up h758 y (20, .inr (10, [.ref (ad 0), .ref (ad 1), .ref (ad 2), .int (iv 3), .int (iv 4), .int (iv 5), .ref (ad 6), .ref (ad 7), .ref (ad 8), .ref (ad 9), .ref (ad 10), .ref (ad 11), .int (iv 12), .ref (ad 13), .ref (ad 14), .ref (ad 15), .ref (ad 16), .ref (ad 17), .ref (ad 18), .ref (ad 19), .int (iv 20), .ref (ad 21), .ref (ad 22), .ref (ad 23), .ref (ad 24), .ref (ad 25), .ref (ad 26), .ref (ad 27), .ref (ad 28), .int (iv 29), .ref (ad 30), .ref (ad 31), .int (iv 32), .int (iv 33), .int (iv 34), .int (iv 35), .long tl, .int (nI 1), .int (nI (gm_name cs (sA i0) (eA i0))), .int (nI 0), .int (nI (eA i0)), .ref (ad 41), .ref (ad 42), .int (iv 43)]))) := w
                obtain ⟨h765, u768⟩ : ∃ z, z = pd_up h758 y (20, .inr (10, [.ref (ad 0), .ref (ad 1), .ref (ad 2), .int (iv 3), .int (iv 4), .int (iv 5), .ref (ad 6), .ref (ad 7), .ref (ad 8), .ref (ad 9), .ref (ad 10), .ref (ad 11), .int (iv 12), .ref (ad 13), .ref (ad 14), .ref (ad 15), .ref (ad 16), .ref (ad 17), .ref (ad 18), .ref (ad 19), .int (iv 20), .ref (ad 21), .ref (ad 22), .ref (ad 23), .ref (ad 24), .ref (ad 25), .ref (ad 26), .ref (ad 27), .ref (ad 28), .int (iv 29), .ref (ad 30), .ref (ad 31), .int (iv 32), .int (iv 33), .int (iv 34), .int (iv 35), .long tl, .int (nI 1), .int (nI (gm_name cs (sA i0) (eA i0))), .int (nI 0), .int (nI (eA i0)), .ref (ad 41), .ref (ad 42), .int (iv 43)])) := ⟨_, rfl⟩
                rw [← u768] at w
                have k766 : pd_kq y h758 h765 := by rw [u768]; exact pd_up_kq
                have f767 : h765 y = some (20, .inr (10, [.ref (ad 0), .ref (ad 1), .ref (ad 2), .int (iv 3), .int (iv 4), .int (iv 5), .ref (ad 6), .ref (ad 7), .ref (ad 8), .ref (ad 9), .ref (ad 10), .ref (ad 11), .int (iv 12), .ref (ad 13), .ref (ad 14), .ref (ad 15), .ref (ad 16), .ref (ad 17), .ref (ad 18), .ref (ad 19), .int (iv 20), .ref (ad 21), .ref (ad 22), .ref (ad 23), .ref (ad 24), .ref (ad 25), .ref (ad 26), .ref (ad 27), .ref (ad 28), .int (iv 29), .ref (ad 30), .ref (ad 31), .int (iv 32), .int (iv 33), .int (iv 34), .int (iv 35), .long tl, .int (nI 1), .int (nI (gm_name cs (sA i0) (eA i0))), .int (nI 0), .int (nI (eA i0)), .ref (ad 41), .ref (ad 42), .int (iv 43)])) := by rw [u768]; exact pd_up_s _ _ _
                have f769 := k766 _ _ (pd_ne f762 f760 (by simp)) f762
                have f770 := k766 _ _ (pd_ne f763 f760 (by simp)) f763
                have f771 := k766 _ _ (pd_ne f764 f760 (by simp)) f764
                refine lv_iload_n hx hb d_p15m16_169 rfl (lv_at hl 0 rfl) ?_
                refine lv_iload_n hx hb d_p15m16_170 rfl (lv_at hl 1 rfl) ?_
                refine pd_jne (tgt := 176) hx hb d_p15m16_171 (by decide) (by omega) (by omega) (fun q772 => ?_) (fun q772 => ?_)
                · -- taken: 176
                  refine lv_aload_n hx hb d_p15m16_176 rfl (lv_at hl 2 rfl) ?_
                  refine pd_get X w f767 rfl 0 (by decide) mT_1139 rfl rfl d_p15m16_177 ?_
                  refine lv_iload_n hx hb d_p15m16_180 rfl (lv_at hl 0 rfl) ?_
                  refine pd_iald X w f769 (by omega) (by omega) d_p15m16_181 ?_
                  refine pd_top (v' := .int (nI (cs.getD ((gm_name cs (sA i0) (eA i0)) + 2) 0))) (congrArg Value.int (hln _ (by omega))) ?_
                  have := tx_lt hlc ((gm_name cs (sA i0) (eA i0)) + 2)
                  refine lv_bipush (v := nI 46) hx hb d_p15m16_182 (by decide) ?_
                  refine pd_jne (tgt := 194) hx hb d_p15m16_184 (by decide) (by omega) (by omega) (fun q773 => ?_) (fun q773 => ?_)
                  · -- taken: 194
                    refine lv_iconst (v := nI 0) hx hb d_p15m16_194 (by decide) ?_
                    have hpt : gm_pt cs ((gm_name cs (sA i0) (eA i0)) + 2) (eA i0) = none := by unfold gm_pt; rw [if_neg (by omega), if_pos (by omega)]
                    have hp : gm_pat cs (sA i0) (eA i0) = none := by unfold gm_pat; rw [hph]; simp only [hpt]
                    refine W.eq (g2 := F0 m 195 ls [.int (pd_b false)]) rfl ?_
                    exact pd_zret (v := false) X w ⟨by rw [hp]; rfl, pd_kx.tr (pd_kx.tr (pd_kx.tr (pd_kx.tr (pd_kx.tr (pd_kx.tr (pd_kq.kx (k2) hy0) (pd_kq.kx (k9) f3)) (pd_kq.kx (k512) f10)) (pd_kq.kx (k519) f513)) (pd_kq.kx (k752) f520)) (pd_kq.kx (k759) f753)) (pd_kq.kx (k766) f760), (nI 1), (nI (gm_name cs (sA i0) (eA i0))), (nI 0), (nI (eA i0)), (pd_MO.of (fv2 := fv) (iv2 := pd_fu (pd_fu (pd_fu (pd_fu iv 37 (nI 1)) 38 (nI (gm_name cs (sA i0) (eA i0)))) 39 (nI 0)) 40 (nI (eA i0))) (tl2 := tl) (ts := [20]) hMO (pd_kx.tr (pd_kx.tr (pd_kx.tr (pd_kx.tr (pd_kx.tr (pd_kx.tr (pd_kq.kx (k2) hy0) (pd_kq.kx (k9) f3)) (pd_kq.kx (k512) f10)) (pd_kq.kx (k519) f513)) (pd_kq.kx (k752) f520)) (pd_kq.kx (k759) f753)) (pd_kq.kx (k766) f760)) f767 (fun j hj => Or.inr ⟨fun z => by first | (simp at z; done) | (simp at z; omega), rfl⟩)), fun t9 ht9 => by rw [hp] at ht9; cases ht9⟩ (by decide) (by decide) d_p15m16_195
                  · -- not taken: 187
                    refine lv_iload_n hx hb d_p15m16_187 rfl (lv_at hl 0 rfl) ?_
                    refine lv_iconst (v := nI 1) hx hb d_p15m16_188 (by decide) ?_
                    refine pd_iadd hx hb d_p15m16_189 ?_
                    refine lv_iload_n hx hb d_p15m16_190 rfl (lv_at hl 1 rfl) ?_
                    refine pd_jne (tgt := 196) hx hb d_p15m16_191 (by decide) (by omega) (by omega) (fun q774 => ?_) (fun q774 => ?_)
                    · -- taken: 196
                      refine lv_aload_n hx hb d_p15m16_196 rfl (lv_at hl 2 rfl) ?_
                      refine lv_aload_n hx hb d_p15m16_197 rfl (lv_at hl 2 rfl) ?_
                      refine pd_get X w f767 rfl 0 (by decide) mT_1139 rfl rfl d_p15m16_198 ?_
                      refine lv_iload_n hx hb d_p15m16_201 rfl (lv_at hl 0 rfl) ?_
                      refine lv_iconst (v := nI 1) hx hb d_p15m16_202 (by decide) ?_
                      refine pd_iadd hx hb d_p15m16_203 ?_
                      refine pd_iald X w f769 (by omega) (by omega) d_p15m16_204 ?_
                      refine pd_top (v' := .int (nI (cs.getD (((gm_name cs (sA i0) (eA i0)) + 2) + 1) 0))) (congrArg Value.int (hln _ (by omega))) ?_
                      have := tx_lt hlc (((gm_name cs (sA i0) (eA i0)) + 2) + 1)
                      refine lv_bipush (v := nI 42) hx hb d_p15m16_205 (by decide) ?_
                      refine pd_jne (tgt := 221) hx hb d_p15m16_207 (by decide) (by omega) (by omega) (fun q775 => ?_) (fun q775 => ?_)
                      · -- taken: 221
                        refine lv_iconst (v := nI 2) hx hb d_p15m16_221 (by decide) ?_
                        refine pd_put (ty := .int) X w f767 hz_y rfl 39 (by decide) mT_1178 rfl rfl (by decide +kernel) rfl rfl (Nat.le_of_ble_eq_true rfl) d_p15m16_222 (fun H locs w => ?_)
                        have w : pd_w G s H locs (pd_up h765 y (20, .inr (10, [.ref (ad 0), .ref (ad 1), .ref (ad 2), .int (iv 3), .int (iv 4), .int (iv 5), .ref (ad 6), .ref (ad 7), .ref (ad 8), .ref (ad 9), .ref (ad 10), .ref (ad 11), .int (iv 12), .ref (ad 13), .ref (ad 14), .ref (ad 15), .ref (ad 16), .ref (ad 17), .ref (ad 18), .ref (ad 19), .int (iv 20), .ref (ad 21), .ref (ad 22), .ref (ad 23), .ref (ad 24), .ref (ad 25), .ref (ad 26), .ref (ad 27), .ref (ad 28), .int (iv 29), .ref (ad 30), .ref (ad 31), .int (iv 32), .int (iv 33), .int (iv 34), .int (iv 35), .long tl, .int (nI 1), .int (nI (gm_name cs (sA i0) (eA i0))), .int (nI 2), .int (nI (eA i0)), .ref (ad 41), .ref (ad 42), .int (iv 43)]))) := w
                        obtain ⟨h776, u779⟩ : ∃ z, z = pd_up h765 y (20, .inr (10, [.ref (ad 0), .ref (ad 1), .ref (ad 2), .int (iv 3), .int (iv 4), .int (iv 5), .ref (ad 6), .ref (ad 7), .ref (ad 8), .ref (ad 9), .ref (ad 10), .ref (ad 11), .int (iv 12), .ref (ad 13), .ref (ad 14), .ref (ad 15), .ref (ad 16), .ref (ad 17), .ref (ad 18), .ref (ad 19), .int (iv 20), .ref (ad 21), .ref (ad 22), .ref (ad 23), .ref (ad 24), .ref (ad 25), .ref (ad 26), .ref (ad 27), .ref (ad 28), .int (iv 29), .ref (ad 30), .ref (ad 31), .int (iv 32), .int (iv 33), .int (iv 34), .int (iv 35), .long tl, .int (nI 1), .int (nI (gm_name cs (sA i0) (eA i0))), .int (nI 2), .int (nI (eA i0)), .ref (ad 41), .ref (ad 42), .int (iv 43)])) := ⟨_, rfl⟩
                        rw [← u779] at w
                        have k777 : pd_kq y h765 h776 := by rw [u779]; exact pd_up_kq
                        have f778 : h776 y = some (20, .inr (10, [.ref (ad 0), .ref (ad 1), .ref (ad 2), .int (iv 3), .int (iv 4), .int (iv 5), .ref (ad 6), .ref (ad 7), .ref (ad 8), .ref (ad 9), .ref (ad 10), .ref (ad 11), .int (iv 12), .ref (ad 13), .ref (ad 14), .ref (ad 15), .ref (ad 16), .ref (ad 17), .ref (ad 18), .ref (ad 19), .int (iv 20), .ref (ad 21), .ref (ad 22), .ref (ad 23), .ref (ad 24), .ref (ad 25), .ref (ad 26), .ref (ad 27), .ref (ad 28), .int (iv 29), .ref (ad 30), .ref (ad 31), .int (iv 32), .int (iv 33), .int (iv 34), .int (iv 35), .long tl, .int (nI 1), .int (nI (gm_name cs (sA i0) (eA i0))), .int (nI 2), .int (nI (eA i0)), .ref (ad 41), .ref (ad 42), .int (iv 43)])) := by rw [u779]; exact pd_up_s _ _ _
                        have f780 := k777 _ _ (pd_ne f769 f767 (by simp)) f769
                        have f781 := k777 _ _ (pd_ne f770 f767 (by simp)) f770
                        have f782 := k777 _ _ (pd_ne f771 f767 (by simp)) f771
                        refine lv_aload_n hx hb d_p15m16_225 rfl (lv_at hl 2 rfl) ?_
                        refine lv_iload_n hx hb d_p15m16_226 rfl (lv_at hl 0 rfl) ?_
                        refine lv_iconst (v := nI 1) hx hb d_p15m16_227 (by decide) ?_
                        refine pd_iadd hx hb d_p15m16_228 ?_
                        refine pd_put (ty := .int) X w f778 hz_y rfl 40 (by decide) mT_1179 rfl rfl (by decide +kernel) rfl rfl (Nat.le_of_ble_eq_true rfl) d_p15m16_229 (fun H locs w => ?_)
                        have w : pd_w G s H locs (pd_up h776 y (20, .inr (10, [.ref (ad 0), .ref (ad 1), .ref (ad 2), .int (iv 3), .int (iv 4), .int (iv 5), .ref (ad 6), .ref (ad 7), .ref (ad 8), .ref (ad 9), .ref (ad 10), .ref (ad 11), .int (iv 12), .ref (ad 13), .ref (ad 14), .ref (ad 15), .ref (ad 16), .ref (ad 17), .ref (ad 18), .ref (ad 19), .int (iv 20), .ref (ad 21), .ref (ad 22), .ref (ad 23), .ref (ad 24), .ref (ad 25), .ref (ad 26), .ref (ad 27), .ref (ad 28), .int (iv 29), .ref (ad 30), .ref (ad 31), .int (iv 32), .int (iv 33), .int (iv 34), .int (iv 35), .long tl, .int (nI 1), .int (nI (gm_name cs (sA i0) (eA i0))), .int (nI 2), .int (nI (((gm_name cs (sA i0) (eA i0)) + 2) + 1)), .ref (ad 41), .ref (ad 42), .int (iv 43)]))) := w
                        obtain ⟨h783, u786⟩ : ∃ z, z = pd_up h776 y (20, .inr (10, [.ref (ad 0), .ref (ad 1), .ref (ad 2), .int (iv 3), .int (iv 4), .int (iv 5), .ref (ad 6), .ref (ad 7), .ref (ad 8), .ref (ad 9), .ref (ad 10), .ref (ad 11), .int (iv 12), .ref (ad 13), .ref (ad 14), .ref (ad 15), .ref (ad 16), .ref (ad 17), .ref (ad 18), .ref (ad 19), .int (iv 20), .ref (ad 21), .ref (ad 22), .ref (ad 23), .ref (ad 24), .ref (ad 25), .ref (ad 26), .ref (ad 27), .ref (ad 28), .int (iv 29), .ref (ad 30), .ref (ad 31), .int (iv 32), .int (iv 33), .int (iv 34), .int (iv 35), .long tl, .int (nI 1), .int (nI (gm_name cs (sA i0) (eA i0))), .int (nI 2), .int (nI (((gm_name cs (sA i0) (eA i0)) + 2) + 1)), .ref (ad 41), .ref (ad 42), .int (iv 43)])) := ⟨_, rfl⟩
                        rw [← u786] at w
                        have k784 : pd_kq y h776 h783 := by rw [u786]; exact pd_up_kq
                        have f785 : h783 y = some (20, .inr (10, [.ref (ad 0), .ref (ad 1), .ref (ad 2), .int (iv 3), .int (iv 4), .int (iv 5), .ref (ad 6), .ref (ad 7), .ref (ad 8), .ref (ad 9), .ref (ad 10), .ref (ad 11), .int (iv 12), .ref (ad 13), .ref (ad 14), .ref (ad 15), .ref (ad 16), .ref (ad 17), .ref (ad 18), .ref (ad 19), .int (iv 20), .ref (ad 21), .ref (ad 22), .ref (ad 23), .ref (ad 24), .ref (ad 25), .ref (ad 26), .ref (ad 27), .ref (ad 28), .int (iv 29), .ref (ad 30), .ref (ad 31), .int (iv 32), .int (iv 33), .int (iv 34), .int (iv 35), .long tl, .int (nI 1), .int (nI (gm_name cs (sA i0) (eA i0))), .int (nI 2), .int (nI (((gm_name cs (sA i0) (eA i0)) + 2) + 1)), .ref (ad 41), .ref (ad 42), .int (iv 43)])) := by rw [u786]; exact pd_up_s _ _ _
                        have f787 := k784 _ _ (pd_ne f780 f778 (by simp)) f780
                        have f788 := k784 _ _ (pd_ne f781 f778 (by simp)) f781
                        have f789 := k784 _ _ (pd_ne f782 f778 (by simp)) f782
                        refine lv_aload_n hx hb d_p15m16_232 rfl (lv_at hl 2 rfl) ?_
                        refine pd_get X w f785 rfl 39 (by decide) mT_1178 rfl rfl d_p15m16_233 ?_
                        refine lv_iconst (v := nI 1) hx hb d_p15m16_236 (by decide) ?_
                        refine pd_jeq (tgt := 252) hx hb d_p15m16_237 (by decide) (by decide) (by decide) (fun q => absurd q (by decide)) (fun _ => ?_)
                        refine lv_aload_n hx hb d_p15m16_240 rfl (lv_at hl 2 rfl) ?_
                        refine lv_iload_n hx hb d_p15m16_241 rfl (lv_at hl 0 rfl) ?_
                        refine lv_iconst (v := nI 1) hx hb d_p15m16_242 (by decide) ?_
                        refine pd_iadd hx hb d_p15m16_243 ?_
                        refine lv_iload_n hx hb d_p15m16_244 rfl (lv_at hl 1 rfl) ?_
                        refine pd_cV (a := y) (As := [.int (nI (((gm_name cs (sA i0) (eA i0)) + 2) + 1)), .int (nI (eA i0))]) (rest := []) X w f785 rfl (c_PolicyDeskModel_behindPart l G h783 (ad := ad) (fv := fv) (iv := pd_fu (pd_fu (pd_fu (pd_fu iv 37 (nI 1)) 38 (nI (gm_name cs (sA i0) (eA i0)))) 39 (nI 2)) 40 (nI (((gm_name cs (sA i0) (eA i0)) + 2) + 1))) (tl := tl) (pd_MO.of (fv2 := fv) (iv2 := pd_fu (pd_fu (pd_fu (pd_fu iv 37 (nI 1)) 38 (nI (gm_name cs (sA i0) (eA i0)))) 39 (nI 2)) 40 (nI (((gm_name cs (sA i0) (eA i0)) + 2) + 1))) (tl2 := tl) (ts := [20]) hMO (pd_kx.tr (pd_kx.tr (pd_kx.tr (pd_kx.tr (pd_kx.tr (pd_kx.tr (pd_kx.tr (pd_kx.tr (pd_kq.kx (k2) hy0) (pd_kq.kx (k9) f3)) (pd_kq.kx (k512) f10)) (pd_kq.kx (k519) f513)) (pd_kq.kx (k752) f520)) (pd_kq.kx (k759) f753)) (pd_kq.kx (k766) f760)) (pd_kq.kx (k777) f767)) (pd_kq.kx (k784) f778)) f785 (fun j hj => Or.inr ⟨fun z => by first | (simp at z; done) | (simp at z; omega), rfl⟩)) hL (by omega) (by omega)) ok_PolicyDeskModel_behindPart ⟨mT_1315, sT_19⟩ mT_1313 ⟨by decide, by decide⟩ rfl hl.1 rfl (Nat.le_of_ble_eq_true rfl) d_p15m16_245 ⟨by decide, by decide⟩ (fun r791 h792 H locs hp793 w => ?_)
                        refine W.widen (k := 0) (n := 0) (by decide) (by decide) ?_
                        obtain ⟨e794, rfl⟩ := hp793
                        have hpl := gm_part_le (cs := cs) (x := (gm_name cs (sA i0) (eA i0)) + 2 + 1) (to := eA i0) (by omega)
                        refine lv_iload_n hx hb d_p15m16_248 rfl (lv_at hl 1 rfl) ?_
                        refine pd_jne (tgt := 256) hx hb d_p15m16_249 (by decide) (by omega) (by omega) (fun q795 => ?_) (fun q795 => ?_)
                        · -- taken: 256
                          refine lv_iconst (v := nI 0) hx hb d_p15m16_256 (by decide) ?_
                          have hpt : gm_pt cs ((gm_name cs (sA i0) (eA i0)) + 2) (eA i0) = none := by unfold gm_pt; rw [if_neg (by omega), if_neg (by omega), if_neg (by omega), if_neg (by rw [← e794]; omega)]
                          have hp : gm_pat cs (sA i0) (eA i0) = none := by unfold gm_pat; rw [hph]; simp only [hpt]
                          refine W.eq (g2 := F0 m 257 ls [.int (pd_b false)]) rfl ?_
                          exact pd_zret (v := false) X w ⟨by rw [hp]; rfl, pd_kx.tr (pd_kx.tr (pd_kx.tr (pd_kx.tr (pd_kx.tr (pd_kx.tr (pd_kx.tr (pd_kx.tr (pd_kq.kx (k2) hy0) (pd_kq.kx (k9) f3)) (pd_kq.kx (k512) f10)) (pd_kq.kx (k519) f513)) (pd_kq.kx (k752) f520)) (pd_kq.kx (k759) f753)) (pd_kq.kx (k766) f760)) (pd_kq.kx (k777) f767)) (pd_kq.kx (k784) f778), (nI 1), (nI (gm_name cs (sA i0) (eA i0))), (nI 2), (nI (((gm_name cs (sA i0) (eA i0)) + 2) + 1)), (pd_MO.of (fv2 := fv) (iv2 := pd_fu (pd_fu (pd_fu (pd_fu iv 37 (nI 1)) 38 (nI (gm_name cs (sA i0) (eA i0)))) 39 (nI 2)) 40 (nI (((gm_name cs (sA i0) (eA i0)) + 2) + 1))) (tl2 := tl) (ts := [20]) hMO (pd_kx.tr (pd_kx.tr (pd_kx.tr (pd_kx.tr (pd_kx.tr (pd_kx.tr (pd_kx.tr (pd_kx.tr (pd_kq.kx (k2) hy0) (pd_kq.kx (k9) f3)) (pd_kq.kx (k512) f10)) (pd_kq.kx (k519) f513)) (pd_kq.kx (k752) f520)) (pd_kq.kx (k759) f753)) (pd_kq.kx (k766) f760)) (pd_kq.kx (k777) f767)) (pd_kq.kx (k784) f778)) f785 (fun j hj => Or.inr ⟨fun z => by first | (simp at z; done) | (simp at z; omega), rfl⟩)), fun t9 ht9 => by rw [hp] at ht9; cases ht9⟩ (by decide) (by decide) d_p15m16_257
                        · -- not taken: 252
                          refine lv_iconst (v := nI 1) hx hb d_p15m16_252 (by decide) ?_
                          refine lv_goto (tgt := 257) hx hb d_p15m16_253 (by decide) ?_
                          have hpt : gm_pt cs ((gm_name cs (sA i0) (eA i0)) + 2) (eA i0) = some (2, (gm_name cs (sA i0) (eA i0)) + 2 + 1) := by unfold gm_pt; rw [if_neg (by omega), if_neg (by omega), if_neg (by omega), if_pos (by rw [← e794]; omega)]
                          have hp : gm_pat cs (sA i0) (eA i0) = some (1, gm_name cs (sA i0) (eA i0), 2, (gm_name cs (sA i0) (eA i0)) + 2 + 1) := by unfold gm_pat; rw [hph]; simp only [hpt]
                          refine W.eq (g2 := F0 m 257 ls [.int (pd_b true)]) rfl ?_
                          exact pd_zret (v := true) X w ⟨by rw [hp]; rfl, pd_kx.tr (pd_kx.tr (pd_kx.tr (pd_kx.tr (pd_kx.tr (pd_kx.tr (pd_kx.tr (pd_kx.tr (pd_kq.kx (k2) hy0) (pd_kq.kx (k9) f3)) (pd_kq.kx (k512) f10)) (pd_kq.kx (k519) f513)) (pd_kq.kx (k752) f520)) (pd_kq.kx (k759) f753)) (pd_kq.kx (k766) f760)) (pd_kq.kx (k777) f767)) (pd_kq.kx (k784) f778), (nI 1), (nI (gm_name cs (sA i0) (eA i0))), (nI 2), (nI (((gm_name cs (sA i0) (eA i0)) + 2) + 1)), (pd_MO.of (fv2 := fv) (iv2 := pd_fu (pd_fu (pd_fu (pd_fu iv 37 (nI 1)) 38 (nI (gm_name cs (sA i0) (eA i0)))) 39 (nI 2)) 40 (nI (((gm_name cs (sA i0) (eA i0)) + 2) + 1))) (tl2 := tl) (ts := [20]) hMO (pd_kx.tr (pd_kx.tr (pd_kx.tr (pd_kx.tr (pd_kx.tr (pd_kx.tr (pd_kx.tr (pd_kx.tr (pd_kq.kx (k2) hy0) (pd_kq.kx (k9) f3)) (pd_kq.kx (k512) f10)) (pd_kq.kx (k519) f513)) (pd_kq.kx (k752) f520)) (pd_kq.kx (k759) f753)) (pd_kq.kx (k766) f760)) (pd_kq.kx (k777) f767)) (pd_kq.kx (k784) f778)) f785 (fun j hj => Or.inr ⟨fun z => by first | (simp at z; done) | (simp at z; omega), rfl⟩)), fun t9 ht9 => by rw [hp] at ht9; cases ht9; exact ⟨rfl, rfl, rfl, rfl⟩⟩ (by decide) (by decide) d_p15m16_257
                      · -- not taken: 210
                        refine lv_iload_n hx hb d_p15m16_210 rfl (lv_at hl 0 rfl) ?_
                        refine lv_iconst (v := nI 2) hx hb d_p15m16_211 (by decide) ?_
                        refine pd_iadd hx hb d_p15m16_212 ?_
                        refine lv_iload_n hx hb d_p15m16_213 rfl (lv_at hl 1 rfl) ?_
                        refine pd_jne (tgt := 221) hx hb d_p15m16_214 (by decide) (by omega) (by omega) (fun q796 => ?_) (fun q796 => ?_)
                        · -- taken: 221
                          refine lv_iconst (v := nI 2) hx hb d_p15m16_221 (by decide) ?_
                          refine pd_put (ty := .int) X w f767 hz_y rfl 39 (by decide) mT_1178 rfl rfl (by decide +kernel) rfl rfl (Nat.le_of_ble_eq_true rfl) d_p15m16_222 (fun H locs w => ?_)
                          have w : pd_w G s H locs (pd_up h765 y (20, .inr (10, [.ref (ad 0), .ref (ad 1), .ref (ad 2), .int (iv 3), .int (iv 4), .int (iv 5), .ref (ad 6), .ref (ad 7), .ref (ad 8), .ref (ad 9), .ref (ad 10), .ref (ad 11), .int (iv 12), .ref (ad 13), .ref (ad 14), .ref (ad 15), .ref (ad 16), .ref (ad 17), .ref (ad 18), .ref (ad 19), .int (iv 20), .ref (ad 21), .ref (ad 22), .ref (ad 23), .ref (ad 24), .ref (ad 25), .ref (ad 26), .ref (ad 27), .ref (ad 28), .int (iv 29), .ref (ad 30), .ref (ad 31), .int (iv 32), .int (iv 33), .int (iv 34), .int (iv 35), .long tl, .int (nI 1), .int (nI (gm_name cs (sA i0) (eA i0))), .int (nI 2), .int (nI (eA i0)), .ref (ad 41), .ref (ad 42), .int (iv 43)]))) := w
                          obtain ⟨h797, u800⟩ : ∃ z, z = pd_up h765 y (20, .inr (10, [.ref (ad 0), .ref (ad 1), .ref (ad 2), .int (iv 3), .int (iv 4), .int (iv 5), .ref (ad 6), .ref (ad 7), .ref (ad 8), .ref (ad 9), .ref (ad 10), .ref (ad 11), .int (iv 12), .ref (ad 13), .ref (ad 14), .ref (ad 15), .ref (ad 16), .ref (ad 17), .ref (ad 18), .ref (ad 19), .int (iv 20), .ref (ad 21), .ref (ad 22), .ref (ad 23), .ref (ad 24), .ref (ad 25), .ref (ad 26), .ref (ad 27), .ref (ad 28), .int (iv 29), .ref (ad 30), .ref (ad 31), .int (iv 32), .int (iv 33), .int (iv 34), .int (iv 35), .long tl, .int (nI 1), .int (nI (gm_name cs (sA i0) (eA i0))), .int (nI 2), .int (nI (eA i0)), .ref (ad 41), .ref (ad 42), .int (iv 43)])) := ⟨_, rfl⟩
                          rw [← u800] at w
                          have k798 : pd_kq y h765 h797 := by rw [u800]; exact pd_up_kq
                          have f799 : h797 y = some (20, .inr (10, [.ref (ad 0), .ref (ad 1), .ref (ad 2), .int (iv 3), .int (iv 4), .int (iv 5), .ref (ad 6), .ref (ad 7), .ref (ad 8), .ref (ad 9), .ref (ad 10), .ref (ad 11), .int (iv 12), .ref (ad 13), .ref (ad 14), .ref (ad 15), .ref (ad 16), .ref (ad 17), .ref (ad 18), .ref (ad 19), .int (iv 20), .ref (ad 21), .ref (ad 22), .ref (ad 23), .ref (ad 24), .ref (ad 25), .ref (ad 26), .ref (ad 27), .ref (ad 28), .int (iv 29), .ref (ad 30), .ref (ad 31), .int (iv 32), .int (iv 33), .int (iv 34), .int (iv 35), .long tl, .int (nI 1), .int (nI (gm_name cs (sA i0) (eA i0))), .int (nI 2), .int (nI (eA i0)), .ref (ad 41), .ref (ad 42), .int (iv 43)])) := by rw [u800]; exact pd_up_s _ _ _
                          have f801 := k798 _ _ (pd_ne f769 f767 (by simp)) f769
                          have f802 := k798 _ _ (pd_ne f770 f767 (by simp)) f770
                          have f803 := k798 _ _ (pd_ne f771 f767 (by simp)) f771
                          refine lv_aload_n hx hb d_p15m16_225 rfl (lv_at hl 2 rfl) ?_
                          refine lv_iload_n hx hb d_p15m16_226 rfl (lv_at hl 0 rfl) ?_
                          refine lv_iconst (v := nI 1) hx hb d_p15m16_227 (by decide) ?_
                          refine pd_iadd hx hb d_p15m16_228 ?_
                          refine pd_put (ty := .int) X w f799 hz_y rfl 40 (by decide) mT_1179 rfl rfl (by decide +kernel) rfl rfl (Nat.le_of_ble_eq_true rfl) d_p15m16_229 (fun H locs w => ?_)
                          have w : pd_w G s H locs (pd_up h797 y (20, .inr (10, [.ref (ad 0), .ref (ad 1), .ref (ad 2), .int (iv 3), .int (iv 4), .int (iv 5), .ref (ad 6), .ref (ad 7), .ref (ad 8), .ref (ad 9), .ref (ad 10), .ref (ad 11), .int (iv 12), .ref (ad 13), .ref (ad 14), .ref (ad 15), .ref (ad 16), .ref (ad 17), .ref (ad 18), .ref (ad 19), .int (iv 20), .ref (ad 21), .ref (ad 22), .ref (ad 23), .ref (ad 24), .ref (ad 25), .ref (ad 26), .ref (ad 27), .ref (ad 28), .int (iv 29), .ref (ad 30), .ref (ad 31), .int (iv 32), .int (iv 33), .int (iv 34), .int (iv 35), .long tl, .int (nI 1), .int (nI (gm_name cs (sA i0) (eA i0))), .int (nI 2), .int (nI (((gm_name cs (sA i0) (eA i0)) + 2) + 1)), .ref (ad 41), .ref (ad 42), .int (iv 43)]))) := w
                          obtain ⟨h804, u807⟩ : ∃ z, z = pd_up h797 y (20, .inr (10, [.ref (ad 0), .ref (ad 1), .ref (ad 2), .int (iv 3), .int (iv 4), .int (iv 5), .ref (ad 6), .ref (ad 7), .ref (ad 8), .ref (ad 9), .ref (ad 10), .ref (ad 11), .int (iv 12), .ref (ad 13), .ref (ad 14), .ref (ad 15), .ref (ad 16), .ref (ad 17), .ref (ad 18), .ref (ad 19), .int (iv 20), .ref (ad 21), .ref (ad 22), .ref (ad 23), .ref (ad 24), .ref (ad 25), .ref (ad 26), .ref (ad 27), .ref (ad 28), .int (iv 29), .ref (ad 30), .ref (ad 31), .int (iv 32), .int (iv 33), .int (iv 34), .int (iv 35), .long tl, .int (nI 1), .int (nI (gm_name cs (sA i0) (eA i0))), .int (nI 2), .int (nI (((gm_name cs (sA i0) (eA i0)) + 2) + 1)), .ref (ad 41), .ref (ad 42), .int (iv 43)])) := ⟨_, rfl⟩
                          rw [← u807] at w
                          have k805 : pd_kq y h797 h804 := by rw [u807]; exact pd_up_kq
                          have f806 : h804 y = some (20, .inr (10, [.ref (ad 0), .ref (ad 1), .ref (ad 2), .int (iv 3), .int (iv 4), .int (iv 5), .ref (ad 6), .ref (ad 7), .ref (ad 8), .ref (ad 9), .ref (ad 10), .ref (ad 11), .int (iv 12), .ref (ad 13), .ref (ad 14), .ref (ad 15), .ref (ad 16), .ref (ad 17), .ref (ad 18), .ref (ad 19), .int (iv 20), .ref (ad 21), .ref (ad 22), .ref (ad 23), .ref (ad 24), .ref (ad 25), .ref (ad 26), .ref (ad 27), .ref (ad 28), .int (iv 29), .ref (ad 30), .ref (ad 31), .int (iv 32), .int (iv 33), .int (iv 34), .int (iv 35), .long tl, .int (nI 1), .int (nI (gm_name cs (sA i0) (eA i0))), .int (nI 2), .int (nI (((gm_name cs (sA i0) (eA i0)) + 2) + 1)), .ref (ad 41), .ref (ad 42), .int (iv 43)])) := by rw [u807]; exact pd_up_s _ _ _
                          have f808 := k805 _ _ (pd_ne f801 f799 (by simp)) f801
                          have f809 := k805 _ _ (pd_ne f802 f799 (by simp)) f802
                          have f810 := k805 _ _ (pd_ne f803 f799 (by simp)) f803
                          refine lv_aload_n hx hb d_p15m16_232 rfl (lv_at hl 2 rfl) ?_
                          refine pd_get X w f806 rfl 39 (by decide) mT_1178 rfl rfl d_p15m16_233 ?_
                          refine lv_iconst (v := nI 1) hx hb d_p15m16_236 (by decide) ?_
                          refine pd_jeq (tgt := 252) hx hb d_p15m16_237 (by decide) (by decide) (by decide) (fun q => absurd q (by decide)) (fun _ => ?_)
                          refine lv_aload_n hx hb d_p15m16_240 rfl (lv_at hl 2 rfl) ?_
                          refine lv_iload_n hx hb d_p15m16_241 rfl (lv_at hl 0 rfl) ?_
                          refine lv_iconst (v := nI 1) hx hb d_p15m16_242 (by decide) ?_
                          refine pd_iadd hx hb d_p15m16_243 ?_
                          refine lv_iload_n hx hb d_p15m16_244 rfl (lv_at hl 1 rfl) ?_
                          refine pd_cV (a := y) (As := [.int (nI (((gm_name cs (sA i0) (eA i0)) + 2) + 1)), .int (nI (eA i0))]) (rest := []) X w f806 rfl (c_PolicyDeskModel_behindPart l G h804 (ad := ad) (fv := fv) (iv := pd_fu (pd_fu (pd_fu (pd_fu iv 37 (nI 1)) 38 (nI (gm_name cs (sA i0) (eA i0)))) 39 (nI 2)) 40 (nI (((gm_name cs (sA i0) (eA i0)) + 2) + 1))) (tl := tl) (pd_MO.of (fv2 := fv) (iv2 := pd_fu (pd_fu (pd_fu (pd_fu iv 37 (nI 1)) 38 (nI (gm_name cs (sA i0) (eA i0)))) 39 (nI 2)) 40 (nI (((gm_name cs (sA i0) (eA i0)) + 2) + 1))) (tl2 := tl) (ts := [20]) hMO (pd_kx.tr (pd_kx.tr (pd_kx.tr (pd_kx.tr (pd_kx.tr (pd_kx.tr (pd_kx.tr (pd_kx.tr (pd_kq.kx (k2) hy0) (pd_kq.kx (k9) f3)) (pd_kq.kx (k512) f10)) (pd_kq.kx (k519) f513)) (pd_kq.kx (k752) f520)) (pd_kq.kx (k759) f753)) (pd_kq.kx (k766) f760)) (pd_kq.kx (k798) f767)) (pd_kq.kx (k805) f799)) f806 (fun j hj => Or.inr ⟨fun z => by first | (simp at z; done) | (simp at z; omega), rfl⟩)) hL (by omega) (by omega)) ok_PolicyDeskModel_behindPart ⟨mT_1315, sT_19⟩ mT_1313 ⟨by decide, by decide⟩ rfl hl.1 rfl (Nat.le_of_ble_eq_true rfl) d_p15m16_245 ⟨by decide, by decide⟩ (fun r812 h813 H locs hp814 w => ?_)
                          refine W.widen (k := 0) (n := 0) (by decide) (by decide) ?_
                          obtain ⟨e815, rfl⟩ := hp814
                          have hpl := gm_part_le (cs := cs) (x := (gm_name cs (sA i0) (eA i0)) + 2 + 1) (to := eA i0) (by omega)
                          refine lv_iload_n hx hb d_p15m16_248 rfl (lv_at hl 1 rfl) ?_
                          refine pd_jne (tgt := 256) hx hb d_p15m16_249 (by decide) (by omega) (by omega) (fun q816 => ?_) (fun q816 => ?_)
                          · -- taken: 256
                            refine lv_iconst (v := nI 0) hx hb d_p15m16_256 (by decide) ?_
                            have hpt : gm_pt cs ((gm_name cs (sA i0) (eA i0)) + 2) (eA i0) = none := by unfold gm_pt; rw [if_neg (by omega), if_neg (by omega), if_neg (by omega), if_neg (by rw [← e815]; omega)]
                            have hp : gm_pat cs (sA i0) (eA i0) = none := by unfold gm_pat; rw [hph]; simp only [hpt]
                            refine W.eq (g2 := F0 m 257 ls [.int (pd_b false)]) rfl ?_
                            exact pd_zret (v := false) X w ⟨by rw [hp]; rfl, pd_kx.tr (pd_kx.tr (pd_kx.tr (pd_kx.tr (pd_kx.tr (pd_kx.tr (pd_kx.tr (pd_kx.tr (pd_kq.kx (k2) hy0) (pd_kq.kx (k9) f3)) (pd_kq.kx (k512) f10)) (pd_kq.kx (k519) f513)) (pd_kq.kx (k752) f520)) (pd_kq.kx (k759) f753)) (pd_kq.kx (k766) f760)) (pd_kq.kx (k798) f767)) (pd_kq.kx (k805) f799), (nI 1), (nI (gm_name cs (sA i0) (eA i0))), (nI 2), (nI (((gm_name cs (sA i0) (eA i0)) + 2) + 1)), (pd_MO.of (fv2 := fv) (iv2 := pd_fu (pd_fu (pd_fu (pd_fu iv 37 (nI 1)) 38 (nI (gm_name cs (sA i0) (eA i0)))) 39 (nI 2)) 40 (nI (((gm_name cs (sA i0) (eA i0)) + 2) + 1))) (tl2 := tl) (ts := [20]) hMO (pd_kx.tr (pd_kx.tr (pd_kx.tr (pd_kx.tr (pd_kx.tr (pd_kx.tr (pd_kx.tr (pd_kx.tr (pd_kq.kx (k2) hy0) (pd_kq.kx (k9) f3)) (pd_kq.kx (k512) f10)) (pd_kq.kx (k519) f513)) (pd_kq.kx (k752) f520)) (pd_kq.kx (k759) f753)) (pd_kq.kx (k766) f760)) (pd_kq.kx (k798) f767)) (pd_kq.kx (k805) f799)) f806 (fun j hj => Or.inr ⟨fun z => by first | (simp at z; done) | (simp at z; omega), rfl⟩)), fun t9 ht9 => by rw [hp] at ht9; cases ht9⟩ (by decide) (by decide) d_p15m16_257
                          · -- not taken: 252
                            refine lv_iconst (v := nI 1) hx hb d_p15m16_252 (by decide) ?_
                            refine lv_goto (tgt := 257) hx hb d_p15m16_253 (by decide) ?_
                            have hpt : gm_pt cs ((gm_name cs (sA i0) (eA i0)) + 2) (eA i0) = some (2, (gm_name cs (sA i0) (eA i0)) + 2 + 1) := by unfold gm_pt; rw [if_neg (by omega), if_neg (by omega), if_neg (by omega), if_pos (by rw [← e815]; omega)]
                            have hp : gm_pat cs (sA i0) (eA i0) = some (1, gm_name cs (sA i0) (eA i0), 2, (gm_name cs (sA i0) (eA i0)) + 2 + 1) := by unfold gm_pat; rw [hph]; simp only [hpt]
                            refine W.eq (g2 := F0 m 257 ls [.int (pd_b true)]) rfl ?_
                            exact pd_zret (v := true) X w ⟨by rw [hp]; rfl, pd_kx.tr (pd_kx.tr (pd_kx.tr (pd_kx.tr (pd_kx.tr (pd_kx.tr (pd_kx.tr (pd_kx.tr (pd_kq.kx (k2) hy0) (pd_kq.kx (k9) f3)) (pd_kq.kx (k512) f10)) (pd_kq.kx (k519) f513)) (pd_kq.kx (k752) f520)) (pd_kq.kx (k759) f753)) (pd_kq.kx (k766) f760)) (pd_kq.kx (k798) f767)) (pd_kq.kx (k805) f799), (nI 1), (nI (gm_name cs (sA i0) (eA i0))), (nI 2), (nI (((gm_name cs (sA i0) (eA i0)) + 2) + 1)), (pd_MO.of (fv2 := fv) (iv2 := pd_fu (pd_fu (pd_fu (pd_fu iv 37 (nI 1)) 38 (nI (gm_name cs (sA i0) (eA i0)))) 39 (nI 2)) 40 (nI (((gm_name cs (sA i0) (eA i0)) + 2) + 1))) (tl2 := tl) (ts := [20]) hMO (pd_kx.tr (pd_kx.tr (pd_kx.tr (pd_kx.tr (pd_kx.tr (pd_kx.tr (pd_kx.tr (pd_kx.tr (pd_kq.kx (k2) hy0) (pd_kq.kx (k9) f3)) (pd_kq.kx (k512) f10)) (pd_kq.kx (k519) f513)) (pd_kq.kx (k752) f520)) (pd_kq.kx (k759) f753)) (pd_kq.kx (k766) f760)) (pd_kq.kx (k798) f767)) (pd_kq.kx (k805) f799)) f806 (fun j hj => Or.inr ⟨fun z => by first | (simp at z; done) | (simp at z; omega), rfl⟩)), fun t9 ht9 => by rw [hp] at ht9; cases ht9; exact ⟨rfl, rfl, rfl, rfl⟩⟩ (by decide) (by decide) d_p15m16_257
                        · -- not taken: 217
                          refine lv_iconst (v := nI 1) hx hb d_p15m16_217 (by decide) ?_
                          refine lv_goto (tgt := 222) hx hb d_p15m16_218 (by decide) ?_
                          refine pd_put (ty := .int) X w f767 hz_y rfl 39 (by decide) mT_1178 rfl rfl (by decide +kernel) rfl rfl (Nat.le_of_ble_eq_true rfl) d_p15m16_222 (fun H locs w => ?_)
                          have w : pd_w G s H locs (pd_up h765 y (20, .inr (10, [.ref (ad 0), .ref (ad 1), .ref (ad 2), .int (iv 3), .int (iv 4), .int (iv 5), .ref (ad 6), .ref (ad 7), .ref (ad 8), .ref (ad 9), .ref (ad 10), .ref (ad 11), .int (iv 12), .ref (ad 13), .ref (ad 14), .ref (ad 15), .ref (ad 16), .ref (ad 17), .ref (ad 18), .ref (ad 19), .int (iv 20), .ref (ad 21), .ref (ad 22), .ref (ad 23), .ref (ad 24), .ref (ad 25), .ref (ad 26), .ref (ad 27), .ref (ad 28), .int (iv 29), .ref (ad 30), .ref (ad 31), .int (iv 32), .int (iv 33), .int (iv 34), .int (iv 35), .long tl, .int (nI 1), .int (nI (gm_name cs (sA i0) (eA i0))), .int (nI 1), .int (nI (eA i0)), .ref (ad 41), .ref (ad 42), .int (iv 43)]))) := w
                          obtain ⟨h817, u820⟩ : ∃ z, z = pd_up h765 y (20, .inr (10, [.ref (ad 0), .ref (ad 1), .ref (ad 2), .int (iv 3), .int (iv 4), .int (iv 5), .ref (ad 6), .ref (ad 7), .ref (ad 8), .ref (ad 9), .ref (ad 10), .ref (ad 11), .int (iv 12), .ref (ad 13), .ref (ad 14), .ref (ad 15), .ref (ad 16), .ref (ad 17), .ref (ad 18), .ref (ad 19), .int (iv 20), .ref (ad 21), .ref (ad 22), .ref (ad 23), .ref (ad 24), .ref (ad 25), .ref (ad 26), .ref (ad 27), .ref (ad 28), .int (iv 29), .ref (ad 30), .ref (ad 31), .int (iv 32), .int (iv 33), .int (iv 34), .int (iv 35), .long tl, .int (nI 1), .int (nI (gm_name cs (sA i0) (eA i0))), .int (nI 1), .int (nI (eA i0)), .ref (ad 41), .ref (ad 42), .int (iv 43)])) := ⟨_, rfl⟩
                          rw [← u820] at w
                          have k818 : pd_kq y h765 h817 := by rw [u820]; exact pd_up_kq
                          have f819 : h817 y = some (20, .inr (10, [.ref (ad 0), .ref (ad 1), .ref (ad 2), .int (iv 3), .int (iv 4), .int (iv 5), .ref (ad 6), .ref (ad 7), .ref (ad 8), .ref (ad 9), .ref (ad 10), .ref (ad 11), .int (iv 12), .ref (ad 13), .ref (ad 14), .ref (ad 15), .ref (ad 16), .ref (ad 17), .ref (ad 18), .ref (ad 19), .int (iv 20), .ref (ad 21), .ref (ad 22), .ref (ad 23), .ref (ad 24), .ref (ad 25), .ref (ad 26), .ref (ad 27), .ref (ad 28), .int (iv 29), .ref (ad 30), .ref (ad 31), .int (iv 32), .int (iv 33), .int (iv 34), .int (iv 35), .long tl, .int (nI 1), .int (nI (gm_name cs (sA i0) (eA i0))), .int (nI 1), .int (nI (eA i0)), .ref (ad 41), .ref (ad 42), .int (iv 43)])) := by rw [u820]; exact pd_up_s _ _ _
                          have f821 := k818 _ _ (pd_ne f769 f767 (by simp)) f769
                          have f822 := k818 _ _ (pd_ne f770 f767 (by simp)) f770
                          have f823 := k818 _ _ (pd_ne f771 f767 (by simp)) f771
                          refine lv_aload_n hx hb d_p15m16_225 rfl (lv_at hl 2 rfl) ?_
                          refine lv_iload_n hx hb d_p15m16_226 rfl (lv_at hl 0 rfl) ?_
                          refine lv_iconst (v := nI 1) hx hb d_p15m16_227 (by decide) ?_
                          refine pd_iadd hx hb d_p15m16_228 ?_
                          refine pd_put (ty := .int) X w f819 hz_y rfl 40 (by decide) mT_1179 rfl rfl (by decide +kernel) rfl rfl (Nat.le_of_ble_eq_true rfl) d_p15m16_229 (fun H locs w => ?_)
                          have w : pd_w G s H locs (pd_up h817 y (20, .inr (10, [.ref (ad 0), .ref (ad 1), .ref (ad 2), .int (iv 3), .int (iv 4), .int (iv 5), .ref (ad 6), .ref (ad 7), .ref (ad 8), .ref (ad 9), .ref (ad 10), .ref (ad 11), .int (iv 12), .ref (ad 13), .ref (ad 14), .ref (ad 15), .ref (ad 16), .ref (ad 17), .ref (ad 18), .ref (ad 19), .int (iv 20), .ref (ad 21), .ref (ad 22), .ref (ad 23), .ref (ad 24), .ref (ad 25), .ref (ad 26), .ref (ad 27), .ref (ad 28), .int (iv 29), .ref (ad 30), .ref (ad 31), .int (iv 32), .int (iv 33), .int (iv 34), .int (iv 35), .long tl, .int (nI 1), .int (nI (gm_name cs (sA i0) (eA i0))), .int (nI 1), .int (nI (((gm_name cs (sA i0) (eA i0)) + 2) + 1)), .ref (ad 41), .ref (ad 42), .int (iv 43)]))) := w
                          obtain ⟨h824, u827⟩ : ∃ z, z = pd_up h817 y (20, .inr (10, [.ref (ad 0), .ref (ad 1), .ref (ad 2), .int (iv 3), .int (iv 4), .int (iv 5), .ref (ad 6), .ref (ad 7), .ref (ad 8), .ref (ad 9), .ref (ad 10), .ref (ad 11), .int (iv 12), .ref (ad 13), .ref (ad 14), .ref (ad 15), .ref (ad 16), .ref (ad 17), .ref (ad 18), .ref (ad 19), .int (iv 20), .ref (ad 21), .ref (ad 22), .ref (ad 23), .ref (ad 24), .ref (ad 25), .ref (ad 26), .ref (ad 27), .ref (ad 28), .int (iv 29), .ref (ad 30), .ref (ad 31), .int (iv 32), .int (iv 33), .int (iv 34), .int (iv 35), .long tl, .int (nI 1), .int (nI (gm_name cs (sA i0) (eA i0))), .int (nI 1), .int (nI (((gm_name cs (sA i0) (eA i0)) + 2) + 1)), .ref (ad 41), .ref (ad 42), .int (iv 43)])) := ⟨_, rfl⟩
                          rw [← u827] at w
                          have k825 : pd_kq y h817 h824 := by rw [u827]; exact pd_up_kq
                          have f826 : h824 y = some (20, .inr (10, [.ref (ad 0), .ref (ad 1), .ref (ad 2), .int (iv 3), .int (iv 4), .int (iv 5), .ref (ad 6), .ref (ad 7), .ref (ad 8), .ref (ad 9), .ref (ad 10), .ref (ad 11), .int (iv 12), .ref (ad 13), .ref (ad 14), .ref (ad 15), .ref (ad 16), .ref (ad 17), .ref (ad 18), .ref (ad 19), .int (iv 20), .ref (ad 21), .ref (ad 22), .ref (ad 23), .ref (ad 24), .ref (ad 25), .ref (ad 26), .ref (ad 27), .ref (ad 28), .int (iv 29), .ref (ad 30), .ref (ad 31), .int (iv 32), .int (iv 33), .int (iv 34), .int (iv 35), .long tl, .int (nI 1), .int (nI (gm_name cs (sA i0) (eA i0))), .int (nI 1), .int (nI (((gm_name cs (sA i0) (eA i0)) + 2) + 1)), .ref (ad 41), .ref (ad 42), .int (iv 43)])) := by rw [u827]; exact pd_up_s _ _ _
                          have f828 := k825 _ _ (pd_ne f821 f819 (by simp)) f821
                          have f829 := k825 _ _ (pd_ne f822 f819 (by simp)) f822
                          have f830 := k825 _ _ (pd_ne f823 f819 (by simp)) f823
                          refine lv_aload_n hx hb d_p15m16_232 rfl (lv_at hl 2 rfl) ?_
                          refine pd_get X w f826 rfl 39 (by decide) mT_1178 rfl rfl d_p15m16_233 ?_
                          refine lv_iconst (v := nI 1) hx hb d_p15m16_236 (by decide) ?_
                          refine pd_jeq (tgt := 252) hx hb d_p15m16_237 (by decide) (by decide) (by decide) (fun _ => ?_) (fun q => absurd q (by decide))
                          refine lv_iconst (v := nI 1) hx hb d_p15m16_252 (by decide) ?_
                          refine lv_goto (tgt := 257) hx hb d_p15m16_253 (by decide) ?_
                          have hpt : gm_pt cs ((gm_name cs (sA i0) (eA i0)) + 2) (eA i0) = some (1, (gm_name cs (sA i0) (eA i0)) + 2 + 1) := by unfold gm_pt; rw [if_neg (by omega), if_neg (by omega), if_pos (by omega)]
                          have hp : gm_pat cs (sA i0) (eA i0) = some (1, gm_name cs (sA i0) (eA i0), 1, (gm_name cs (sA i0) (eA i0)) + 2 + 1) := by unfold gm_pat; rw [hph]; simp only [hpt]
                          refine W.eq (g2 := F0 m 257 ls [.int (pd_b true)]) rfl ?_
                          exact pd_zret (v := true) X w ⟨by rw [hp]; rfl, pd_kx.tr (pd_kx.tr (pd_kx.tr (pd_kx.tr (pd_kx.tr (pd_kx.tr (pd_kx.tr (pd_kx.tr (pd_kq.kx (k2) hy0) (pd_kq.kx (k9) f3)) (pd_kq.kx (k512) f10)) (pd_kq.kx (k519) f513)) (pd_kq.kx (k752) f520)) (pd_kq.kx (k759) f753)) (pd_kq.kx (k766) f760)) (pd_kq.kx (k818) f767)) (pd_kq.kx (k825) f819), (nI 1), (nI (gm_name cs (sA i0) (eA i0))), (nI 1), (nI (((gm_name cs (sA i0) (eA i0)) + 2) + 1)), (pd_MO.of (fv2 := fv) (iv2 := pd_fu (pd_fu (pd_fu (pd_fu iv 37 (nI 1)) 38 (nI (gm_name cs (sA i0) (eA i0)))) 39 (nI 1)) 40 (nI (((gm_name cs (sA i0) (eA i0)) + 2) + 1))) (tl2 := tl) (ts := [20]) hMO (pd_kx.tr (pd_kx.tr (pd_kx.tr (pd_kx.tr (pd_kx.tr (pd_kx.tr (pd_kx.tr (pd_kx.tr (pd_kq.kx (k2) hy0) (pd_kq.kx (k9) f3)) (pd_kq.kx (k512) f10)) (pd_kq.kx (k519) f513)) (pd_kq.kx (k752) f520)) (pd_kq.kx (k759) f753)) (pd_kq.kx (k766) f760)) (pd_kq.kx (k818) f767)) (pd_kq.kx (k825) f819)) f826 (fun j hj => Or.inr ⟨fun z => by first | (simp at z; done) | (simp at z; omega), rfl⟩)), fun t9 ht9 => by rw [hp] at ht9; cases ht9; exact ⟨rfl, rfl, rfl, rfl⟩⟩ (by decide) (by decide) d_p15m16_257
                    · -- not taken: 194
                      refine lv_iconst (v := nI 0) hx hb d_p15m16_194 (by decide) ?_
                      have hpt : gm_pt cs ((gm_name cs (sA i0) (eA i0)) + 2) (eA i0) = none := by unfold gm_pt; rw [if_neg (by omega), if_pos (by omega)]
                      have hp : gm_pat cs (sA i0) (eA i0) = none := by unfold gm_pat; rw [hph]; simp only [hpt]
                      refine W.eq (g2 := F0 m 195 ls [.int (pd_b false)]) rfl ?_
                      exact pd_zret (v := false) X w ⟨by rw [hp]; rfl, pd_kx.tr (pd_kx.tr (pd_kx.tr (pd_kx.tr (pd_kx.tr (pd_kx.tr (pd_kq.kx (k2) hy0) (pd_kq.kx (k9) f3)) (pd_kq.kx (k512) f10)) (pd_kq.kx (k519) f513)) (pd_kq.kx (k752) f520)) (pd_kq.kx (k759) f753)) (pd_kq.kx (k766) f760), (nI 1), (nI (gm_name cs (sA i0) (eA i0))), (nI 0), (nI (eA i0)), (pd_MO.of (fv2 := fv) (iv2 := pd_fu (pd_fu (pd_fu (pd_fu iv 37 (nI 1)) 38 (nI (gm_name cs (sA i0) (eA i0)))) 39 (nI 0)) 40 (nI (eA i0))) (tl2 := tl) (ts := [20]) hMO (pd_kx.tr (pd_kx.tr (pd_kx.tr (pd_kx.tr (pd_kx.tr (pd_kx.tr (pd_kq.kx (k2) hy0) (pd_kq.kx (k9) f3)) (pd_kq.kx (k512) f10)) (pd_kq.kx (k519) f513)) (pd_kq.kx (k752) f520)) (pd_kq.kx (k759) f753)) (pd_kq.kx (k766) f760)) f767 (fun j hj => Or.inr ⟨fun z => by first | (simp at z; done) | (simp at z; omega), rfl⟩)), fun t9 ht9 => by rw [hp] at ht9; cases ht9⟩ (by decide) (by decide) d_p15m16_195
                · -- not taken: 174
                  refine lv_iconst (v := nI 1) hx hb d_p15m16_174 (by decide) ?_
                  have hpt : gm_pt cs ((gm_name cs (sA i0) (eA i0)) + 2) (eA i0) = some (0, eA i0) := by unfold gm_pt; rw [if_pos (by omega)]
                  have hp : gm_pat cs (sA i0) (eA i0) = some (1, gm_name cs (sA i0) (eA i0), 0, eA i0) := by unfold gm_pat; rw [hph]; simp only [hpt]
                  refine W.eq (g2 := F0 m 175 ls [.int (pd_b true)]) rfl ?_
                  exact pd_zret (v := true) X w ⟨by rw [hp]; rfl, pd_kx.tr (pd_kx.tr (pd_kx.tr (pd_kx.tr (pd_kx.tr (pd_kx.tr (pd_kq.kx (k2) hy0) (pd_kq.kx (k9) f3)) (pd_kq.kx (k512) f10)) (pd_kq.kx (k519) f513)) (pd_kq.kx (k752) f520)) (pd_kq.kx (k759) f753)) (pd_kq.kx (k766) f760), (nI 1), (nI (gm_name cs (sA i0) (eA i0))), (nI 0), (nI (eA i0)), (pd_MO.of (fv2 := fv) (iv2 := pd_fu (pd_fu (pd_fu (pd_fu iv 37 (nI 1)) 38 (nI (gm_name cs (sA i0) (eA i0)))) 39 (nI 0)) 40 (nI (eA i0))) (tl2 := tl) (ts := [20]) hMO (pd_kx.tr (pd_kx.tr (pd_kx.tr (pd_kx.tr (pd_kx.tr (pd_kx.tr (pd_kq.kx (k2) hy0) (pd_kq.kx (k9) f3)) (pd_kq.kx (k512) f10)) (pd_kq.kx (k519) f513)) (pd_kq.kx (k752) f520)) (pd_kq.kx (k759) f753)) (pd_kq.kx (k766) f760)) f767 (fun j hj => Or.inr ⟨fun z => by first | (simp at z; done) | (simp at z; omega), rfl⟩)), fun t9 ht9 => by rw [hp] at ht9; cases ht9; exact ⟨rfl, rfl, rfl, rfl⟩⟩ (by decide) (by decide) d_p15m16_175
              · -- not taken: 129
                refine lv_aload_n hx hb d_p15m16_129 rfl (lv_at hl 2 rfl) ?_
                refine pd_get X w f520 rfl 0 (by decide) mT_1139 rfl rfl d_p15m16_130 ?_
                refine lv_iload_n hx hb d_p15m16_133 rfl (lv_at hl 0 rfl) ?_
                refine lv_iconst (v := nI 2) hx hb d_p15m16_134 (by decide) ?_
                refine pd_iadd hx hb d_p15m16_135 ?_
                refine pd_iald X w f522 (by omega) (by omega) d_p15m16_136 ?_
                refine pd_top (v' := .int (nI (cs.getD ((gm_name cs (sA i0) (eA i0)) + 2) 0))) (congrArg Value.int (hln _ (by omega))) ?_
                have := tx_lt hlc ((gm_name cs (sA i0) (eA i0)) + 2)
                refine lv_bipush (v := nI 42) hx hb d_p15m16_137 (by decide) ?_
                refine pd_jne (tgt := 146) hx hb d_p15m16_139 (by decide) (by omega) (by omega) (fun q832 => ?_) (fun q832 => ?_)
                · -- taken: 146
                  refine lv_iconst (v := nI 1) hx hb d_p15m16_146 (by decide) ?_
                  refine pd_put (ty := .int) X w f520 hz_y rfl 37 (by decide) mT_1176 rfl rfl (by decide +kernel) rfl rfl (Nat.le_of_ble_eq_true rfl) d_p15m16_147 (fun H locs w => ?_)
                  have w : pd_w G s H locs (pd_up h518 y (20, .inr (10, [.ref (ad 0), .ref (ad 1), .ref (ad 2), .int (iv 3), .int (iv 4), .int (iv 5), .ref (ad 6), .ref (ad 7), .ref (ad 8), .ref (ad 9), .ref (ad 10), .ref (ad 11), .int (iv 12), .ref (ad 13), .ref (ad 14), .ref (ad 15), .ref (ad 16), .ref (ad 17), .ref (ad 18), .ref (ad 19), .int (iv 20), .ref (ad 21), .ref (ad 22), .ref (ad 23), .ref (ad 24), .ref (ad 25), .ref (ad 26), .ref (ad 27), .ref (ad 28), .int (iv 29), .ref (ad 30), .ref (ad 31), .int (iv 32), .int (iv 33), .int (iv 34), .int (iv 35), .long tl, .int (nI 1), .int (nI (gm_name cs (sA i0) (eA i0))), .int (iv 39), .int (iv 40), .ref (ad 41), .ref (ad 42), .int (iv 43)]))) := w
                  obtain ⟨h833, u836⟩ : ∃ z, z = pd_up h518 y (20, .inr (10, [.ref (ad 0), .ref (ad 1), .ref (ad 2), .int (iv 3), .int (iv 4), .int (iv 5), .ref (ad 6), .ref (ad 7), .ref (ad 8), .ref (ad 9), .ref (ad 10), .ref (ad 11), .int (iv 12), .ref (ad 13), .ref (ad 14), .ref (ad 15), .ref (ad 16), .ref (ad 17), .ref (ad 18), .ref (ad 19), .int (iv 20), .ref (ad 21), .ref (ad 22), .ref (ad 23), .ref (ad 24), .ref (ad 25), .ref (ad 26), .ref (ad 27), .ref (ad 28), .int (iv 29), .ref (ad 30), .ref (ad 31), .int (iv 32), .int (iv 33), .int (iv 34), .int (iv 35), .long tl, .int (nI 1), .int (nI (gm_name cs (sA i0) (eA i0))), .int (iv 39), .int (iv 40), .ref (ad 41), .ref (ad 42), .int (iv 43)])) := ⟨_, rfl⟩
                  rw [← u836] at w
                  have k834 : pd_kq y h518 h833 := by rw [u836]; exact pd_up_kq
                  have f835 : h833 y = some (20, .inr (10, [.ref (ad 0), .ref (ad 1), .ref (ad 2), .int (iv 3), .int (iv 4), .int (iv 5), .ref (ad 6), .ref (ad 7), .ref (ad 8), .ref (ad 9), .ref (ad 10), .ref (ad 11), .int (iv 12), .ref (ad 13), .ref (ad 14), .ref (ad 15), .ref (ad 16), .ref (ad 17), .ref (ad 18), .ref (ad 19), .int (iv 20), .ref (ad 21), .ref (ad 22), .ref (ad 23), .ref (ad 24), .ref (ad 25), .ref (ad 26), .ref (ad 27), .ref (ad 28), .int (iv 29), .ref (ad 30), .ref (ad 31), .int (iv 32), .int (iv 33), .int (iv 34), .int (iv 35), .long tl, .int (nI 1), .int (nI (gm_name cs (sA i0) (eA i0))), .int (iv 39), .int (iv 40), .ref (ad 41), .ref (ad 42), .int (iv 43)])) := by rw [u836]; exact pd_up_s _ _ _
                  have f837 := k834 _ _ (pd_ne f522 f520 (by simp)) f522
                  have f838 := k834 _ _ (pd_ne f523 f520 (by simp)) f523
                  have f839 := k834 _ _ (pd_ne f524 f520 (by simp)) f524
                  refine lv_iload_n hx hb d_p15m16_150 rfl (lv_at hl 0 rfl) ?_
                  refine lv_iconst (v := nI 1) hx hb d_p15m16_151 (by decide) ?_
                  refine lv_aload_n hx hb d_p15m16_152 rfl (lv_at hl 2 rfl) ?_
                  refine pd_get X w f835 rfl 37 (by decide) mT_1176 rfl rfl d_p15m16_153 ?_
                  refine pd_iadd hx hb d_p15m16_156 ?_
                  refine pd_iadd hx hb d_p15m16_157 ?_
                  refine lv_istore_n (lv' := [(2, .int (nI ((gm_name cs (sA i0) (eA i0)) + 2))), (3, .int (nI (eA i0))), (0, .ref y), (1, .int (nI i0))]) hx hb d_p15m16_158 rfl hl (by decide) rfl (fun ls hl => ?_)
                  have hph : gm_ph cs (sA i0) (eA i0) = some (1, gm_name cs (sA i0) (eA i0), (gm_name cs (sA i0) (eA i0)) + 2) := by unfold gm_ph; rw [if_neg (by omega), if_neg (by omega), if_pos (by omega), if_neg (by omega)]
                  refine lv_aload_n hx hb d_p15m16_159 rfl (lv_at hl 2 rfl) ?_
                  refine lv_iconst (v := nI 0) hx hb d_p15m16_160 (by decide) ?_
                  refine pd_put (ty := .int) X w f835 hz_y rfl 39 (by decide) mT_1178 rfl rfl (by decide +kernel) rfl rfl (Nat.le_of_ble_eq_true rfl) d_p15m16_161 (fun H locs w => ?_)
                  have w : pd_w G s H locs (pd_up h833 y (20, .inr (10, [.ref (ad 0), .ref (ad 1), .ref (ad 2), .int (iv 3), .int (iv 4), .int (iv 5), .ref (ad 6), .ref (ad 7), .ref (ad 8), .ref (ad 9), .ref (ad 10), .ref (ad 11), .int (iv 12), .ref (ad 13), .ref (ad 14), .ref (ad 15), .ref (ad 16), .ref (ad 17), .ref (ad 18), .ref (ad 19), .int (iv 20), .ref (ad 21), .ref (ad 22), .ref (ad 23), .ref (ad 24), .ref (ad 25), .ref (ad 26), .ref (ad 27), .ref (ad 28), .int (iv 29), .ref (ad 30), .ref (ad 31), .int (iv 32), .int (iv 33), .int (iv 34), .int (iv 35), .long tl, .int (nI 1), .int (nI (gm_name cs (sA i0) (eA i0))), .int (nI 0), .int (iv 40), .ref (ad 41), .ref (ad 42), .int (iv 43)]))) := w
                  obtain ⟨h840, u843⟩ : ∃ z, z = pd_up h833 y (20, .inr (10, [.ref (ad 0), .ref (ad 1), .ref (ad 2), .int (iv 3), .int (iv 4), .int (iv 5), .ref (ad 6), .ref (ad 7), .ref (ad 8), .ref (ad 9), .ref (ad 10), .ref (ad 11), .int (iv 12), .ref (ad 13), .ref (ad 14), .ref (ad 15), .ref (ad 16), .ref (ad 17), .ref (ad 18), .ref (ad 19), .int (iv 20), .ref (ad 21), .ref (ad 22), .ref (ad 23), .ref (ad 24), .ref (ad 25), .ref (ad 26), .ref (ad 27), .ref (ad 28), .int (iv 29), .ref (ad 30), .ref (ad 31), .int (iv 32), .int (iv 33), .int (iv 34), .int (iv 35), .long tl, .int (nI 1), .int (nI (gm_name cs (sA i0) (eA i0))), .int (nI 0), .int (iv 40), .ref (ad 41), .ref (ad 42), .int (iv 43)])) := ⟨_, rfl⟩
                  rw [← u843] at w
                  have k841 : pd_kq y h833 h840 := by rw [u843]; exact pd_up_kq
                  have f842 : h840 y = some (20, .inr (10, [.ref (ad 0), .ref (ad 1), .ref (ad 2), .int (iv 3), .int (iv 4), .int (iv 5), .ref (ad 6), .ref (ad 7), .ref (ad 8), .ref (ad 9), .ref (ad 10), .ref (ad 11), .int (iv 12), .ref (ad 13), .ref (ad 14), .ref (ad 15), .ref (ad 16), .ref (ad 17), .ref (ad 18), .ref (ad 19), .int (iv 20), .ref (ad 21), .ref (ad 22), .ref (ad 23), .ref (ad 24), .ref (ad 25), .ref (ad 26), .ref (ad 27), .ref (ad 28), .int (iv 29), .ref (ad 30), .ref (ad 31), .int (iv 32), .int (iv 33), .int (iv 34), .int (iv 35), .long tl, .int (nI 1), .int (nI (gm_name cs (sA i0) (eA i0))), .int (nI 0), .int (iv 40), .ref (ad 41), .ref (ad 42), .int (iv 43)])) := by rw [u843]; exact pd_up_s _ _ _
                  have f844 := k841 _ _ (pd_ne f837 f835 (by simp)) f837
                  have f845 := k841 _ _ (pd_ne f838 f835 (by simp)) f838
                  have f846 := k841 _ _ (pd_ne f839 f835 (by simp)) f839
                  refine lv_aload_n hx hb d_p15m16_164 rfl (lv_at hl 2 rfl) ?_
                  refine lv_iload_n hx hb d_p15m16_165 rfl (lv_at hl 1 rfl) ?_
                  refine pd_put (ty := .int) X w f842 hz_y rfl 40 (by decide) mT_1179 rfl rfl (by decide +kernel) rfl rfl (Nat.le_of_ble_eq_true rfl) d_p15m16_166 (fun H locs w => ?_)
                  have w : pd_w G s H locs (pd_up h840 y (20, .inr (10, [.ref (ad 0), .ref (ad 1), .ref (ad 2), .int (iv 3), .int (iv 4), .int (iv 5), .ref (ad 6), .ref (ad 7), .ref (ad 8), .ref (ad 9), .ref (ad 10), .ref (ad 11), .int (iv 12), .ref (ad 13), .ref (ad 14), .ref (ad 15), .ref (ad 16), .ref (ad 17), .ref (ad 18), .ref (ad 19), .int (iv 20), .ref (ad 21), .ref (ad 22), .ref (ad 23), .ref (ad 24), .ref (ad 25), .ref (ad 26), .ref (ad 27), .ref (ad 28), .int (iv 29), .ref (ad 30), .ref (ad 31), .int (iv 32), .int (iv 33), .int (iv 34), .int (iv 35), .long tl, .int (nI 1), .int (nI (gm_name cs (sA i0) (eA i0))), .int (nI 0), .int (nI (eA i0)), .ref (ad 41), .ref (ad 42), .int (iv 43)]))) := w
                  obtain ⟨h847, u850⟩ : ∃ z, z = pd_up h840 y (20, .inr (10, [.ref (ad 0), .ref (ad 1), .ref (ad 2), .int (iv 3), .int (iv 4), .int (iv 5), .ref (ad 6), .ref (ad 7), .ref (ad 8), .ref (ad 9), .ref (ad 10), .ref (ad 11), .int (iv 12), .ref (ad 13), .ref (ad 14), .ref (ad 15), .ref (ad 16), .ref (ad 17), .ref (ad 18), .ref (ad 19), .int (iv 20), .ref (ad 21), .ref (ad 22), .ref (ad 23), .ref (ad 24), .ref (ad 25), .ref (ad 26), .ref (ad 27), .ref (ad 28), .int (iv 29), .ref (ad 30), .ref (ad 31), .int (iv 32), .int (iv 33), .int (iv 34), .int (iv 35), .long tl, .int (nI 1), .int (nI (gm_name cs (sA i0) (eA i0))), .int (nI 0), .int (nI (eA i0)), .ref (ad 41), .ref (ad 42), .int (iv 43)])) := ⟨_, rfl⟩
                  rw [← u850] at w
                  have k848 : pd_kq y h840 h847 := by rw [u850]; exact pd_up_kq
                  have f849 : h847 y = some (20, .inr (10, [.ref (ad 0), .ref (ad 1), .ref (ad 2), .int (iv 3), .int (iv 4), .int (iv 5), .ref (ad 6), .ref (ad 7), .ref (ad 8), .ref (ad 9), .ref (ad 10), .ref (ad 11), .int (iv 12), .ref (ad 13), .ref (ad 14), .ref (ad 15), .ref (ad 16), .ref (ad 17), .ref (ad 18), .ref (ad 19), .int (iv 20), .ref (ad 21), .ref (ad 22), .ref (ad 23), .ref (ad 24), .ref (ad 25), .ref (ad 26), .ref (ad 27), .ref (ad 28), .int (iv 29), .ref (ad 30), .ref (ad 31), .int (iv 32), .int (iv 33), .int (iv 34), .int (iv 35), .long tl, .int (nI 1), .int (nI (gm_name cs (sA i0) (eA i0))), .int (nI 0), .int (nI (eA i0)), .ref (ad 41), .ref (ad 42), .int (iv 43)])) := by rw [u850]; exact pd_up_s _ _ _
                  have f851 := k848 _ _ (pd_ne f844 f842 (by simp)) f844
                  have f852 := k848 _ _ (pd_ne f845 f842 (by simp)) f845
                  have f853 := k848 _ _ (pd_ne f846 f842 (by simp)) f846
                  refine lv_iload_n hx hb d_p15m16_169 rfl (lv_at hl 0 rfl) ?_
                  refine lv_iload_n hx hb d_p15m16_170 rfl (lv_at hl 1 rfl) ?_
                  refine pd_jne (tgt := 176) hx hb d_p15m16_171 (by decide) (by omega) (by omega) (fun q854 => ?_) (fun q854 => ?_)
                  · -- taken: 176
                    refine lv_aload_n hx hb d_p15m16_176 rfl (lv_at hl 2 rfl) ?_
                    refine pd_get X w f849 rfl 0 (by decide) mT_1139 rfl rfl d_p15m16_177 ?_
                    refine lv_iload_n hx hb d_p15m16_180 rfl (lv_at hl 0 rfl) ?_
                    refine pd_iald X w f851 (by omega) (by omega) d_p15m16_181 ?_
                    refine pd_top (v' := .int (nI (cs.getD ((gm_name cs (sA i0) (eA i0)) + 2) 0))) (congrArg Value.int (hln _ (by omega))) ?_
                    have := tx_lt hlc ((gm_name cs (sA i0) (eA i0)) + 2)
                    refine lv_bipush (v := nI 46) hx hb d_p15m16_182 (by decide) ?_
                    refine pd_jne (tgt := 194) hx hb d_p15m16_184 (by decide) (by omega) (by omega) (fun q855 => ?_) (fun q855 => ?_)
                    · -- taken: 194
                      refine lv_iconst (v := nI 0) hx hb d_p15m16_194 (by decide) ?_
                      have hpt : gm_pt cs ((gm_name cs (sA i0) (eA i0)) + 2) (eA i0) = none := by unfold gm_pt; rw [if_neg (by omega), if_pos (by omega)]
                      have hp : gm_pat cs (sA i0) (eA i0) = none := by unfold gm_pat; rw [hph]; simp only [hpt]
                      refine W.eq (g2 := F0 m 195 ls [.int (pd_b false)]) rfl ?_
                      exact pd_zret (v := false) X w ⟨by rw [hp]; rfl, pd_kx.tr (pd_kx.tr (pd_kx.tr (pd_kx.tr (pd_kx.tr (pd_kx.tr (pd_kq.kx (k2) hy0) (pd_kq.kx (k9) f3)) (pd_kq.kx (k512) f10)) (pd_kq.kx (k519) f513)) (pd_kq.kx (k834) f520)) (pd_kq.kx (k841) f835)) (pd_kq.kx (k848) f842), (nI 1), (nI (gm_name cs (sA i0) (eA i0))), (nI 0), (nI (eA i0)), (pd_MO.of (fv2 := fv) (iv2 := pd_fu (pd_fu (pd_fu (pd_fu iv 37 (nI 1)) 38 (nI (gm_name cs (sA i0) (eA i0)))) 39 (nI 0)) 40 (nI (eA i0))) (tl2 := tl) (ts := [20]) hMO (pd_kx.tr (pd_kx.tr (pd_kx.tr (pd_kx.tr (pd_kx.tr (pd_kx.tr (pd_kq.kx (k2) hy0) (pd_kq.kx (k9) f3)) (pd_kq.kx (k512) f10)) (pd_kq.kx (k519) f513)) (pd_kq.kx (k834) f520)) (pd_kq.kx (k841) f835)) (pd_kq.kx (k848) f842)) f849 (fun j hj => Or.inr ⟨fun z => by first | (simp at z; done) | (simp at z; omega), rfl⟩)), fun t9 ht9 => by rw [hp] at ht9; cases ht9⟩ (by decide) (by decide) d_p15m16_195
                    · -- not taken: 187
                      refine lv_iload_n hx hb d_p15m16_187 rfl (lv_at hl 0 rfl) ?_
                      refine lv_iconst (v := nI 1) hx hb d_p15m16_188 (by decide) ?_
                      refine pd_iadd hx hb d_p15m16_189 ?_
                      refine lv_iload_n hx hb d_p15m16_190 rfl (lv_at hl 1 rfl) ?_
                      refine pd_jne (tgt := 196) hx hb d_p15m16_191 (by decide) (by omega) (by omega) (fun q856 => ?_) (fun q856 => ?_)
                      · -- taken: 196
                        refine lv_aload_n hx hb d_p15m16_196 rfl (lv_at hl 2 rfl) ?_
                        refine lv_aload_n hx hb d_p15m16_197 rfl (lv_at hl 2 rfl) ?_
                        refine pd_get X w f849 rfl 0 (by decide) mT_1139 rfl rfl d_p15m16_198 ?_
                        refine lv_iload_n hx hb d_p15m16_201 rfl (lv_at hl 0 rfl) ?_
                        refine lv_iconst (v := nI 1) hx hb d_p15m16_202 (by decide) ?_
                        refine pd_iadd hx hb d_p15m16_203 ?_
                        refine pd_iald X w f851 (by omega) (by omega) d_p15m16_204 ?_
                        refine pd_top (v' := .int (nI (cs.getD (((gm_name cs (sA i0) (eA i0)) + 2) + 1) 0))) (congrArg Value.int (hln _ (by omega))) ?_
                        have := tx_lt hlc (((gm_name cs (sA i0) (eA i0)) + 2) + 1)
                        refine lv_bipush (v := nI 42) hx hb d_p15m16_205 (by decide) ?_
                        refine pd_jne (tgt := 221) hx hb d_p15m16_207 (by decide) (by omega) (by omega) (fun q857 => ?_) (fun q857 => ?_)
                        · -- taken: 221
                          refine lv_iconst (v := nI 2) hx hb d_p15m16_221 (by decide) ?_
                          refine pd_put (ty := .int) X w f849 hz_y rfl 39 (by decide) mT_1178 rfl rfl (by decide +kernel) rfl rfl (Nat.le_of_ble_eq_true rfl) d_p15m16_222 (fun H locs w => ?_)
                          have w : pd_w G s H locs (pd_up h847 y (20, .inr (10, [.ref (ad 0), .ref (ad 1), .ref (ad 2), .int (iv 3), .int (iv 4), .int (iv 5), .ref (ad 6), .ref (ad 7), .ref (ad 8), .ref (ad 9), .ref (ad 10), .ref (ad 11), .int (iv 12), .ref (ad 13), .ref (ad 14), .ref (ad 15), .ref (ad 16), .ref (ad 17), .ref (ad 18), .ref (ad 19), .int (iv 20), .ref (ad 21), .ref (ad 22), .ref (ad 23), .ref (ad 24), .ref (ad 25), .ref (ad 26), .ref (ad 27), .ref (ad 28), .int (iv 29), .ref (ad 30), .ref (ad 31), .int (iv 32), .int (iv 33), .int (iv 34), .int (iv 35), .long tl, .int (nI 1), .int (nI (gm_name cs (sA i0) (eA i0))), .int (nI 2), .int (nI (eA i0)), .ref (ad 41), .ref (ad 42), .int (iv 43)]))) := w
                          obtain ⟨h858, u861⟩ : ∃ z, z = pd_up h847 y (20, .inr (10, [.ref (ad 0), .ref (ad 1), .ref (ad 2), .int (iv 3), .int (iv 4), .int (iv 5), .ref (ad 6), .ref (ad 7), .ref (ad 8), .ref (ad 9), .ref (ad 10), .ref (ad 11), .int (iv 12), .ref (ad 13), .ref (ad 14), .ref (ad 15), .ref (ad 16), .ref (ad 17), .ref (ad 18), .ref (ad 19), .int (iv 20), .ref (ad 21), .ref (ad 22), .ref (ad 23), .ref (ad 24), .ref (ad 25), .ref (ad 26), .ref (ad 27), .ref (ad 28), .int (iv 29), .ref (ad 30), .ref (ad 31), .int (iv 32), .int (iv 33), .int (iv 34), .int (iv 35), .long tl, .int (nI 1), .int (nI (gm_name cs (sA i0) (eA i0))), .int (nI 2), .int (nI (eA i0)), .ref (ad 41), .ref (ad 42), .int (iv 43)])) := ⟨_, rfl⟩
                          rw [← u861] at w
                          have k859 : pd_kq y h847 h858 := by rw [u861]; exact pd_up_kq
                          have f860 : h858 y = some (20, .inr (10, [.ref (ad 0), .ref (ad 1), .ref (ad 2), .int (iv 3), .int (iv 4), .int (iv 5), .ref (ad 6), .ref (ad 7), .ref (ad 8), .ref (ad 9), .ref (ad 10), .ref (ad 11), .int (iv 12), .ref (ad 13), .ref (ad 14), .ref (ad 15), .ref (ad 16), .ref (ad 17), .ref (ad 18), .ref (ad 19), .int (iv 20), .ref (ad 21), .ref (ad 22), .ref (ad 23), .ref (ad 24), .ref (ad 25), .ref (ad 26), .ref (ad 27), .ref (ad 28), .int (iv 29), .ref (ad 30), .ref (ad 31), .int (iv 32), .int (iv 33), .int (iv 34), .int (iv 35), .long tl, .int (nI 1), .int (nI (gm_name cs (sA i0) (eA i0))), .int (nI 2), .int (nI (eA i0)), .ref (ad 41), .ref (ad 42), .int (iv 43)])) := by rw [u861]; exact pd_up_s _ _ _
                          have f862 := k859 _ _ (pd_ne f851 f849 (by simp)) f851
                          have f863 := k859 _ _ (pd_ne f852 f849 (by simp)) f852
                          have f864 := k859 _ _ (pd_ne f853 f849 (by simp)) f853
                          refine lv_aload_n hx hb d_p15m16_225 rfl (lv_at hl 2 rfl) ?_
                          refine lv_iload_n hx hb d_p15m16_226 rfl (lv_at hl 0 rfl) ?_
                          refine lv_iconst (v := nI 1) hx hb d_p15m16_227 (by decide) ?_
                          refine pd_iadd hx hb d_p15m16_228 ?_
                          refine pd_put (ty := .int) X w f860 hz_y rfl 40 (by decide) mT_1179 rfl rfl (by decide +kernel) rfl rfl (Nat.le_of_ble_eq_true rfl) d_p15m16_229 (fun H locs w => ?_)
                          have w : pd_w G s H locs (pd_up h858 y (20, .inr (10, [.ref (ad 0), .ref (ad 1), .ref (ad 2), .int (iv 3), .int (iv 4), .int (iv 5), .ref (ad 6), .ref (ad 7), .ref (ad 8), .ref (ad 9), .ref (ad 10), .ref (ad 11), .int (iv 12), .ref (ad 13), .ref (ad 14), .ref (ad 15), .ref (ad 16), .ref (ad 17), .ref (ad 18), .ref (ad 19), .int (iv 20), .ref (ad 21), .ref (ad 22), .ref (ad 23), .ref (ad 24), .ref (ad 25), .ref (ad 26), .ref (ad 27), .ref (ad 28), .int (iv 29), .ref (ad 30), .ref (ad 31), .int (iv 32), .int (iv 33), .int (iv 34), .int (iv 35), .long tl, .int (nI 1), .int (nI (gm_name cs (sA i0) (eA i0))), .int (nI 2), .int (nI (((gm_name cs (sA i0) (eA i0)) + 2) + 1)), .ref (ad 41), .ref (ad 42), .int (iv 43)]))) := w
                          obtain ⟨h865, u868⟩ : ∃ z, z = pd_up h858 y (20, .inr (10, [.ref (ad 0), .ref (ad 1), .ref (ad 2), .int (iv 3), .int (iv 4), .int (iv 5), .ref (ad 6), .ref (ad 7), .ref (ad 8), .ref (ad 9), .ref (ad 10), .ref (ad 11), .int (iv 12), .ref (ad 13), .ref (ad 14), .ref (ad 15), .ref (ad 16), .ref (ad 17), .ref (ad 18), .ref (ad 19), .int (iv 20), .ref (ad 21), .ref (ad 22), .ref (ad 23), .ref (ad 24), .ref (ad 25), .ref (ad 26), .ref (ad 27), .ref (ad 28), .int (iv 29), .ref (ad 30), .ref (ad 31), .int (iv 32), .int (iv 33), .int (iv 34), .int (iv 35), .long tl, .int (nI 1), .int (nI (gm_name cs (sA i0) (eA i0))), .int (nI 2), .int (nI (((gm_name cs (sA i0) (eA i0)) + 2) + 1)), .ref (ad 41), .ref (ad 42), .int (iv 43)])) := ⟨_, rfl⟩
                          rw [← u868] at w
                          have k866 : pd_kq y h858 h865 := by rw [u868]; exact pd_up_kq
                          have f867 : h865 y = some (20, .inr (10, [.ref (ad 0), .ref (ad 1), .ref (ad 2), .int (iv 3), .int (iv 4), .int (iv 5), .ref (ad 6), .ref (ad 7), .ref (ad 8), .ref (ad 9), .ref (ad 10), .ref (ad 11), .int (iv 12), .ref (ad 13), .ref (ad 14), .ref (ad 15), .ref (ad 16), .ref (ad 17), .ref (ad 18), .ref (ad 19), .int (iv 20), .ref (ad 21), .ref (ad 22), .ref (ad 23), .ref (ad 24), .ref (ad 25), .ref (ad 26), .ref (ad 27), .ref (ad 28), .int (iv 29), .ref (ad 30), .ref (ad 31), .int (iv 32), .int (iv 33), .int (iv 34), .int (iv 35), .long tl, .int (nI 1), .int (nI (gm_name cs (sA i0) (eA i0))), .int (nI 2), .int (nI (((gm_name cs (sA i0) (eA i0)) + 2) + 1)), .ref (ad 41), .ref (ad 42), .int (iv 43)])) := by rw [u868]; exact pd_up_s _ _ _
                          have f869 := k866 _ _ (pd_ne f862 f860 (by simp)) f862
                          have f870 := k866 _ _ (pd_ne f863 f860 (by simp)) f863
                          have f871 := k866 _ _ (pd_ne f864 f860 (by simp)) f864
                          refine lv_aload_n hx hb d_p15m16_232 rfl (lv_at hl 2 rfl) ?_
                          refine pd_get X w f867 rfl 39 (by decide) mT_1178 rfl rfl d_p15m16_233 ?_
                          refine lv_iconst (v := nI 1) hx hb d_p15m16_236 (by decide) ?_
                          refine pd_jeq (tgt := 252) hx hb d_p15m16_237 (by decide) (by decide) (by decide) (fun q => absurd q (by decide)) (fun _ => ?_)
                          refine lv_aload_n hx hb d_p15m16_240 rfl (lv_at hl 2 rfl) ?_
                          refine lv_iload_n hx hb d_p15m16_241 rfl (lv_at hl 0 rfl) ?_
                          refine lv_iconst (v := nI 1) hx hb d_p15m16_242 (by decide) ?_
                          refine pd_iadd hx hb d_p15m16_243 ?_
                          refine lv_iload_n hx hb d_p15m16_244 rfl (lv_at hl 1 rfl) ?_
                          refine pd_cV (a := y) (As := [.int (nI (((gm_name cs (sA i0) (eA i0)) + 2) + 1)), .int (nI (eA i0))]) (rest := []) X w f867 rfl (c_PolicyDeskModel_behindPart l G h865 (ad := ad) (fv := fv) (iv := pd_fu (pd_fu (pd_fu (pd_fu iv 37 (nI 1)) 38 (nI (gm_name cs (sA i0) (eA i0)))) 39 (nI 2)) 40 (nI (((gm_name cs (sA i0) (eA i0)) + 2) + 1))) (tl := tl) (pd_MO.of (fv2 := fv) (iv2 := pd_fu (pd_fu (pd_fu (pd_fu iv 37 (nI 1)) 38 (nI (gm_name cs (sA i0) (eA i0)))) 39 (nI 2)) 40 (nI (((gm_name cs (sA i0) (eA i0)) + 2) + 1))) (tl2 := tl) (ts := [20]) hMO (pd_kx.tr (pd_kx.tr (pd_kx.tr (pd_kx.tr (pd_kx.tr (pd_kx.tr (pd_kx.tr (pd_kx.tr (pd_kq.kx (k2) hy0) (pd_kq.kx (k9) f3)) (pd_kq.kx (k512) f10)) (pd_kq.kx (k519) f513)) (pd_kq.kx (k834) f520)) (pd_kq.kx (k841) f835)) (pd_kq.kx (k848) f842)) (pd_kq.kx (k859) f849)) (pd_kq.kx (k866) f860)) f867 (fun j hj => Or.inr ⟨fun z => by first | (simp at z; done) | (simp at z; omega), rfl⟩)) hL (by omega) (by omega)) ok_PolicyDeskModel_behindPart ⟨mT_1315, sT_19⟩ mT_1313 ⟨by decide, by decide⟩ rfl hl.1 rfl (Nat.le_of_ble_eq_true rfl) d_p15m16_245 ⟨by decide, by decide⟩ (fun r873 h874 H locs hp875 w => ?_)
                          refine W.widen (k := 0) (n := 0) (by decide) (by decide) ?_
                          obtain ⟨e876, rfl⟩ := hp875
                          have hpl := gm_part_le (cs := cs) (x := (gm_name cs (sA i0) (eA i0)) + 2 + 1) (to := eA i0) (by omega)
                          refine lv_iload_n hx hb d_p15m16_248 rfl (lv_at hl 1 rfl) ?_
                          refine pd_jne (tgt := 256) hx hb d_p15m16_249 (by decide) (by omega) (by omega) (fun q877 => ?_) (fun q877 => ?_)
                          · -- taken: 256
                            refine lv_iconst (v := nI 0) hx hb d_p15m16_256 (by decide) ?_
                            have hpt : gm_pt cs ((gm_name cs (sA i0) (eA i0)) + 2) (eA i0) = none := by unfold gm_pt; rw [if_neg (by omega), if_neg (by omega), if_neg (by omega), if_neg (by rw [← e876]; omega)]
                            have hp : gm_pat cs (sA i0) (eA i0) = none := by unfold gm_pat; rw [hph]; simp only [hpt]
                            refine W.eq (g2 := F0 m 257 ls [.int (pd_b false)]) rfl ?_
                            exact pd_zret (v := false) X w ⟨by rw [hp]; rfl, pd_kx.tr (pd_kx.tr (pd_kx.tr (pd_kx.tr (pd_kx.tr (pd_kx.tr (pd_kx.tr (pd_kx.tr (pd_kq.kx (k2) hy0) (pd_kq.kx (k9) f3)) (pd_kq.kx (k512) f10)) (pd_kq.kx (k519) f513)) (pd_kq.kx (k834) f520)) (pd_kq.kx (k841) f835)) (pd_kq.kx (k848) f842)) (pd_kq.kx (k859) f849)) (pd_kq.kx (k866) f860), (nI 1), (nI (gm_name cs (sA i0) (eA i0))), (nI 2), (nI (((gm_name cs (sA i0) (eA i0)) + 2) + 1)), (pd_MO.of (fv2 := fv) (iv2 := pd_fu (pd_fu (pd_fu (pd_fu iv 37 (nI 1)) 38 (nI (gm_name cs (sA i0) (eA i0)))) 39 (nI 2)) 40 (nI (((gm_name cs (sA i0) (eA i0)) + 2) + 1))) (tl2 := tl) (ts := [20]) hMO (pd_kx.tr (pd_kx.tr (pd_kx.tr (pd_kx.tr (pd_kx.tr (pd_kx.tr (pd_kx.tr (pd_kx.tr (pd_kq.kx (k2) hy0) (pd_kq.kx (k9) f3)) (pd_kq.kx (k512) f10)) (pd_kq.kx (k519) f513)) (pd_kq.kx (k834) f520)) (pd_kq.kx (k841) f835)) (pd_kq.kx (k848) f842)) (pd_kq.kx (k859) f849)) (pd_kq.kx (k866) f860)) f867 (fun j hj => Or.inr ⟨fun z => by first | (simp at z; done) | (simp at z; omega), rfl⟩)), fun t9 ht9 => by rw [hp] at ht9; cases ht9⟩ (by decide) (by decide) d_p15m16_257
                          · -- not taken: 252
                            refine lv_iconst (v := nI 1) hx hb d_p15m16_252 (by decide) ?_
                            refine lv_goto (tgt := 257) hx hb d_p15m16_253 (by decide) ?_
                            have hpt : gm_pt cs ((gm_name cs (sA i0) (eA i0)) + 2) (eA i0) = some (2, (gm_name cs (sA i0) (eA i0)) + 2 + 1) := by unfold gm_pt; rw [if_neg (by omega), if_neg (by omega), if_neg (by omega), if_pos (by rw [← e876]; omega)]
                            have hp : gm_pat cs (sA i0) (eA i0) = some (1, gm_name cs (sA i0) (eA i0), 2, (gm_name cs (sA i0) (eA i0)) + 2 + 1) := by unfold gm_pat; rw [hph]; simp only [hpt]
                            refine W.eq (g2 := F0 m 257 ls [.int (pd_b true)]) rfl ?_
                            exact pd_zret (v := true) X w ⟨by rw [hp]; rfl, pd_kx.tr (pd_kx.tr (pd_kx.tr (pd_kx.tr (pd_kx.tr (pd_kx.tr (pd_kx.tr (pd_kx.tr (pd_kq.kx (k2) hy0) (pd_kq.kx (k9) f3)) (pd_kq.kx (k512) f10)) (pd_kq.kx (k519) f513)) (pd_kq.kx (k834) f520)) (pd_kq.kx (k841) f835)) (pd_kq.kx (k848) f842)) (pd_kq.kx (k859) f849)) (pd_kq.kx (k866) f860), (nI 1), (nI (gm_name cs (sA i0) (eA i0))), (nI 2), (nI (((gm_name cs (sA i0) (eA i0)) + 2) + 1)), (pd_MO.of (fv2 := fv) (iv2 := pd_fu (pd_fu (pd_fu (pd_fu iv 37 (nI 1)) 38 (nI (gm_name cs (sA i0) (eA i0)))) 39 (nI 2)) 40 (nI (((gm_name cs (sA i0) (eA i0)) + 2) + 1))) (tl2 := tl) (ts := [20]) hMO (pd_kx.tr (pd_kx.tr (pd_kx.tr (pd_kx.tr (pd_kx.tr (pd_kx.tr (pd_kx.tr (pd_kx.tr (pd_kq.kx (k2) hy0) (pd_kq.kx (k9) f3)) (pd_kq.kx (k512) f10)) (pd_kq.kx (k519) f513)) (pd_kq.kx (k834) f520)) (pd_kq.kx (k841) f835)) (pd_kq.kx (k848) f842)) (pd_kq.kx (k859) f849)) (pd_kq.kx (k866) f860)) f867 (fun j hj => Or.inr ⟨fun z => by first | (simp at z; done) | (simp at z; omega), rfl⟩)), fun t9 ht9 => by rw [hp] at ht9; cases ht9; exact ⟨rfl, rfl, rfl, rfl⟩⟩ (by decide) (by decide) d_p15m16_257
                        · -- not taken: 210
                          refine lv_iload_n hx hb d_p15m16_210 rfl (lv_at hl 0 rfl) ?_
                          refine lv_iconst (v := nI 2) hx hb d_p15m16_211 (by decide) ?_
                          refine pd_iadd hx hb d_p15m16_212 ?_
                          refine lv_iload_n hx hb d_p15m16_213 rfl (lv_at hl 1 rfl) ?_
                          refine pd_jne (tgt := 221) hx hb d_p15m16_214 (by decide) (by omega) (by omega) (fun q878 => ?_) (fun q878 => ?_)
                          · -- taken: 221
                            refine lv_iconst (v := nI 2) hx hb d_p15m16_221 (by decide) ?_
                            refine pd_put (ty := .int) X w f849 hz_y rfl 39 (by decide) mT_1178 rfl rfl (by decide +kernel) rfl rfl (Nat.le_of_ble_eq_true rfl) d_p15m16_222 (fun H locs w => ?_)
                            have w : pd_w G s H locs (pd_up h847 y (20, .inr (10, [.ref (ad 0), .ref (ad 1), .ref (ad 2), .int (iv 3), .int (iv 4), .int (iv 5), .ref (ad 6), .ref (ad 7), .ref (ad 8), .ref (ad 9), .ref (ad 10), .ref (ad 11), .int (iv 12), .ref (ad 13), .ref (ad 14), .ref (ad 15), .ref (ad 16), .ref (ad 17), .ref (ad 18), .ref (ad 19), .int (iv 20), .ref (ad 21), .ref (ad 22), .ref (ad 23), .ref (ad 24), .ref (ad 25), .ref (ad 26), .ref (ad 27), .ref (ad 28), .int (iv 29), .ref (ad 30), .ref (ad 31), .int (iv 32), .int (iv 33), .int (iv 34), .int (iv 35), .long tl, .int (nI 1), .int (nI (gm_name cs (sA i0) (eA i0))), .int (nI 2), .int (nI (eA i0)), .ref (ad 41), .ref (ad 42), .int (iv 43)]))) := w
                            obtain ⟨h879, u882⟩ : ∃ z, z = pd_up h847 y (20, .inr (10, [.ref (ad 0), .ref (ad 1), .ref (ad 2), .int (iv 3), .int (iv 4), .int (iv 5), .ref (ad 6), .ref (ad 7), .ref (ad 8), .ref (ad 9), .ref (ad 10), .ref (ad 11), .int (iv 12), .ref (ad 13), .ref (ad 14), .ref (ad 15), .ref (ad 16), .ref (ad 17), .ref (ad 18), .ref (ad 19), .int (iv 20), .ref (ad 21), .ref (ad 22), .ref (ad 23), .ref (ad 24), .ref (ad 25), .ref (ad 26), .ref (ad 27), .ref (ad 28), .int (iv 29), .ref (ad 30), .ref (ad 31), .int (iv 32), .int (iv 33), .int (iv 34), .int (iv 35), .long tl, .int (nI 1), .int (nI (gm_name cs (sA i0) (eA i0))), .int (nI 2), .int (nI (eA i0)), .ref (ad 41), .ref (ad 42), .int (iv 43)])) := ⟨_, rfl⟩
                            rw [← u882] at w
                            have k880 : pd_kq y h847 h879 := by rw [u882]; exact pd_up_kq
                            have f881 : h879 y = some (20, .inr (10, [.ref (ad 0), .ref (ad 1), .ref (ad 2), .int (iv 3), .int (iv 4), .int (iv 5), .ref (ad 6), .ref (ad 7), .ref (ad 8), .ref (ad 9), .ref (ad 10), .ref (ad 11), .int (iv 12), .ref (ad 13), .ref (ad 14), .ref (ad 15), .ref (ad 16), .ref (ad 17), .ref (ad 18), .ref (ad 19), .int (iv 20), .ref (ad 21), .ref (ad 22), .ref (ad 23), .ref (ad 24), .ref (ad 25), .ref (ad 26), .ref (ad 27), .ref (ad 28), .int (iv 29), .ref (ad 30), .ref (ad 31), .int (iv 32), .int (iv 33), .int (iv 34), .int (iv 35), .long tl, .int (nI 1), .int (nI (gm_name cs (sA i0) (eA i0))), .int (nI 2), .int (nI (eA i0)), .ref (ad 41), .ref (ad 42), .int (iv 43)])) := by rw [u882]; exact pd_up_s _ _ _
                            have f883 := k880 _ _ (pd_ne f851 f849 (by simp)) f851
                            have f884 := k880 _ _ (pd_ne f852 f849 (by simp)) f852
                            have f885 := k880 _ _ (pd_ne f853 f849 (by simp)) f853
                            refine lv_aload_n hx hb d_p15m16_225 rfl (lv_at hl 2 rfl) ?_
                            refine lv_iload_n hx hb d_p15m16_226 rfl (lv_at hl 0 rfl) ?_
                            refine lv_iconst (v := nI 1) hx hb d_p15m16_227 (by decide) ?_
                            refine pd_iadd hx hb d_p15m16_228 ?_
                            refine pd_put (ty := .int) X w f881 hz_y rfl 40 (by decide) mT_1179 rfl rfl (by decide +kernel) rfl rfl (Nat.le_of_ble_eq_true rfl) d_p15m16_229 (fun H locs w => ?_)
                            have w : pd_w G s H locs (pd_up h879 y (20, .inr (10, [.ref (ad 0), .ref (ad 1), .ref (ad 2), .int (iv 3), .int (iv 4), .int (iv 5), .ref (ad 6), .ref (ad 7), .ref (ad 8), .ref (ad 9), .ref (ad 10), .ref (ad 11), .int (iv 12), .ref (ad 13), .ref (ad 14), .ref (ad 15), .ref (ad 16), .ref (ad 17), .ref (ad 18), .ref (ad 19), .int (iv 20), .ref (ad 21), .ref (ad 22), .ref (ad 23), .ref (ad 24), .ref (ad 25), .ref (ad 26), .ref (ad 27), .ref (ad 28), .int (iv 29), .ref (ad 30), .ref (ad 31), .int (iv 32), .int (iv 33), .int (iv 34), .int (iv 35), .long tl, .int (nI 1), .int (nI (gm_name cs (sA i0) (eA i0))), .int (nI 2), .int (nI (((gm_name cs (sA i0) (eA i0)) + 2) + 1)), .ref (ad 41), .ref (ad 42), .int (iv 43)]))) := w
                            obtain ⟨h886, u889⟩ : ∃ z, z = pd_up h879 y (20, .inr (10, [.ref (ad 0), .ref (ad 1), .ref (ad 2), .int (iv 3), .int (iv 4), .int (iv 5), .ref (ad 6), .ref (ad 7), .ref (ad 8), .ref (ad 9), .ref (ad 10), .ref (ad 11), .int (iv 12), .ref (ad 13), .ref (ad 14), .ref (ad 15), .ref (ad 16), .ref (ad 17), .ref (ad 18), .ref (ad 19), .int (iv 20), .ref (ad 21), .ref (ad 22), .ref (ad 23), .ref (ad 24), .ref (ad 25), .ref (ad 26), .ref (ad 27), .ref (ad 28), .int (iv 29), .ref (ad 30), .ref (ad 31), .int (iv 32), .int (iv 33), .int (iv 34), .int (iv 35), .long tl, .int (nI 1), .int (nI (gm_name cs (sA i0) (eA i0))), .int (nI 2), .int (nI (((gm_name cs (sA i0) (eA i0)) + 2) + 1)), .ref (ad 41), .ref (ad 42), .int (iv 43)])) := ⟨_, rfl⟩
                            rw [← u889] at w
                            have k887 : pd_kq y h879 h886 := by rw [u889]; exact pd_up_kq
                            have f888 : h886 y = some (20, .inr (10, [.ref (ad 0), .ref (ad 1), .ref (ad 2), .int (iv 3), .int (iv 4), .int (iv 5), .ref (ad 6), .ref (ad 7), .ref (ad 8), .ref (ad 9), .ref (ad 10), .ref (ad 11), .int (iv 12), .ref (ad 13), .ref (ad 14), .ref (ad 15), .ref (ad 16), .ref (ad 17), .ref (ad 18), .ref (ad 19), .int (iv 20), .ref (ad 21), .ref (ad 22), .ref (ad 23), .ref (ad 24), .ref (ad 25), .ref (ad 26), .ref (ad 27), .ref (ad 28), .int (iv 29), .ref (ad 30), .ref (ad 31), .int (iv 32), .int (iv 33), .int (iv 34), .int (iv 35), .long tl, .int (nI 1), .int (nI (gm_name cs (sA i0) (eA i0))), .int (nI 2), .int (nI (((gm_name cs (sA i0) (eA i0)) + 2) + 1)), .ref (ad 41), .ref (ad 42), .int (iv 43)])) := by rw [u889]; exact pd_up_s _ _ _
                            have f890 := k887 _ _ (pd_ne f883 f881 (by simp)) f883
                            have f891 := k887 _ _ (pd_ne f884 f881 (by simp)) f884
                            have f892 := k887 _ _ (pd_ne f885 f881 (by simp)) f885
                            refine lv_aload_n hx hb d_p15m16_232 rfl (lv_at hl 2 rfl) ?_
                            refine pd_get X w f888 rfl 39 (by decide) mT_1178 rfl rfl d_p15m16_233 ?_
                            refine lv_iconst (v := nI 1) hx hb d_p15m16_236 (by decide) ?_
                            refine pd_jeq (tgt := 252) hx hb d_p15m16_237 (by decide) (by decide) (by decide) (fun q => absurd q (by decide)) (fun _ => ?_)
                            refine lv_aload_n hx hb d_p15m16_240 rfl (lv_at hl 2 rfl) ?_
                            refine lv_iload_n hx hb d_p15m16_241 rfl (lv_at hl 0 rfl) ?_
                            refine lv_iconst (v := nI 1) hx hb d_p15m16_242 (by decide) ?_
                            refine pd_iadd hx hb d_p15m16_243 ?_
                            refine lv_iload_n hx hb d_p15m16_244 rfl (lv_at hl 1 rfl) ?_
                            refine pd_cV (a := y) (As := [.int (nI (((gm_name cs (sA i0) (eA i0)) + 2) + 1)), .int (nI (eA i0))]) (rest := []) X w f888 rfl (c_PolicyDeskModel_behindPart l G h886 (ad := ad) (fv := fv) (iv := pd_fu (pd_fu (pd_fu (pd_fu iv 37 (nI 1)) 38 (nI (gm_name cs (sA i0) (eA i0)))) 39 (nI 2)) 40 (nI (((gm_name cs (sA i0) (eA i0)) + 2) + 1))) (tl := tl) (pd_MO.of (fv2 := fv) (iv2 := pd_fu (pd_fu (pd_fu (pd_fu iv 37 (nI 1)) 38 (nI (gm_name cs (sA i0) (eA i0)))) 39 (nI 2)) 40 (nI (((gm_name cs (sA i0) (eA i0)) + 2) + 1))) (tl2 := tl) (ts := [20]) hMO (pd_kx.tr (pd_kx.tr (pd_kx.tr (pd_kx.tr (pd_kx.tr (pd_kx.tr (pd_kx.tr (pd_kx.tr (pd_kq.kx (k2) hy0) (pd_kq.kx (k9) f3)) (pd_kq.kx (k512) f10)) (pd_kq.kx (k519) f513)) (pd_kq.kx (k834) f520)) (pd_kq.kx (k841) f835)) (pd_kq.kx (k848) f842)) (pd_kq.kx (k880) f849)) (pd_kq.kx (k887) f881)) f888 (fun j hj => Or.inr ⟨fun z => by first | (simp at z; done) | (simp at z; omega), rfl⟩)) hL (by omega) (by omega)) ok_PolicyDeskModel_behindPart ⟨mT_1315, sT_19⟩ mT_1313 ⟨by decide, by decide⟩ rfl hl.1 rfl (Nat.le_of_ble_eq_true rfl) d_p15m16_245 ⟨by decide, by decide⟩ (fun r894 h895 H locs hp896 w => ?_)
                            refine W.widen (k := 0) (n := 0) (by decide) (by decide) ?_
                            obtain ⟨e897, rfl⟩ := hp896
                            have hpl := gm_part_le (cs := cs) (x := (gm_name cs (sA i0) (eA i0)) + 2 + 1) (to := eA i0) (by omega)
                            refine lv_iload_n hx hb d_p15m16_248 rfl (lv_at hl 1 rfl) ?_
                            refine pd_jne (tgt := 256) hx hb d_p15m16_249 (by decide) (by omega) (by omega) (fun q898 => ?_) (fun q898 => ?_)
                            · -- taken: 256
                              refine lv_iconst (v := nI 0) hx hb d_p15m16_256 (by decide) ?_
                              have hpt : gm_pt cs ((gm_name cs (sA i0) (eA i0)) + 2) (eA i0) = none := by unfold gm_pt; rw [if_neg (by omega), if_neg (by omega), if_neg (by omega), if_neg (by rw [← e897]; omega)]
                              have hp : gm_pat cs (sA i0) (eA i0) = none := by unfold gm_pat; rw [hph]; simp only [hpt]
                              refine W.eq (g2 := F0 m 257 ls [.int (pd_b false)]) rfl ?_
                              exact pd_zret (v := false) X w ⟨by rw [hp]; rfl, pd_kx.tr (pd_kx.tr (pd_kx.tr (pd_kx.tr (pd_kx.tr (pd_kx.tr (pd_kx.tr (pd_kx.tr (pd_kq.kx (k2) hy0) (pd_kq.kx (k9) f3)) (pd_kq.kx (k512) f10)) (pd_kq.kx (k519) f513)) (pd_kq.kx (k834) f520)) (pd_kq.kx (k841) f835)) (pd_kq.kx (k848) f842)) (pd_kq.kx (k880) f849)) (pd_kq.kx (k887) f881), (nI 1), (nI (gm_name cs (sA i0) (eA i0))), (nI 2), (nI (((gm_name cs (sA i0) (eA i0)) + 2) + 1)), (pd_MO.of (fv2 := fv) (iv2 := pd_fu (pd_fu (pd_fu (pd_fu iv 37 (nI 1)) 38 (nI (gm_name cs (sA i0) (eA i0)))) 39 (nI 2)) 40 (nI (((gm_name cs (sA i0) (eA i0)) + 2) + 1))) (tl2 := tl) (ts := [20]) hMO (pd_kx.tr (pd_kx.tr (pd_kx.tr (pd_kx.tr (pd_kx.tr (pd_kx.tr (pd_kx.tr (pd_kx.tr (pd_kq.kx (k2) hy0) (pd_kq.kx (k9) f3)) (pd_kq.kx (k512) f10)) (pd_kq.kx (k519) f513)) (pd_kq.kx (k834) f520)) (pd_kq.kx (k841) f835)) (pd_kq.kx (k848) f842)) (pd_kq.kx (k880) f849)) (pd_kq.kx (k887) f881)) f888 (fun j hj => Or.inr ⟨fun z => by first | (simp at z; done) | (simp at z; omega), rfl⟩)), fun t9 ht9 => by rw [hp] at ht9; cases ht9⟩ (by decide) (by decide) d_p15m16_257
                            · -- not taken: 252
                              refine lv_iconst (v := nI 1) hx hb d_p15m16_252 (by decide) ?_
                              refine lv_goto (tgt := 257) hx hb d_p15m16_253 (by decide) ?_
                              have hpt : gm_pt cs ((gm_name cs (sA i0) (eA i0)) + 2) (eA i0) = some (2, (gm_name cs (sA i0) (eA i0)) + 2 + 1) := by unfold gm_pt; rw [if_neg (by omega), if_neg (by omega), if_neg (by omega), if_pos (by rw [← e897]; omega)]
                              have hp : gm_pat cs (sA i0) (eA i0) = some (1, gm_name cs (sA i0) (eA i0), 2, (gm_name cs (sA i0) (eA i0)) + 2 + 1) := by unfold gm_pat; rw [hph]; simp only [hpt]
                              refine W.eq (g2 := F0 m 257 ls [.int (pd_b true)]) rfl ?_
                              exact pd_zret (v := true) X w ⟨by rw [hp]; rfl, pd_kx.tr (pd_kx.tr (pd_kx.tr (pd_kx.tr (pd_kx.tr (pd_kx.tr (pd_kx.tr (pd_kx.tr (pd_kq.kx (k2) hy0) (pd_kq.kx (k9) f3)) (pd_kq.kx (k512) f10)) (pd_kq.kx (k519) f513)) (pd_kq.kx (k834) f520)) (pd_kq.kx (k841) f835)) (pd_kq.kx (k848) f842)) (pd_kq.kx (k880) f849)) (pd_kq.kx (k887) f881), (nI 1), (nI (gm_name cs (sA i0) (eA i0))), (nI 2), (nI (((gm_name cs (sA i0) (eA i0)) + 2) + 1)), (pd_MO.of (fv2 := fv) (iv2 := pd_fu (pd_fu (pd_fu (pd_fu iv 37 (nI 1)) 38 (nI (gm_name cs (sA i0) (eA i0)))) 39 (nI 2)) 40 (nI (((gm_name cs (sA i0) (eA i0)) + 2) + 1))) (tl2 := tl) (ts := [20]) hMO (pd_kx.tr (pd_kx.tr (pd_kx.tr (pd_kx.tr (pd_kx.tr (pd_kx.tr (pd_kx.tr (pd_kx.tr (pd_kq.kx (k2) hy0) (pd_kq.kx (k9) f3)) (pd_kq.kx (k512) f10)) (pd_kq.kx (k519) f513)) (pd_kq.kx (k834) f520)) (pd_kq.kx (k841) f835)) (pd_kq.kx (k848) f842)) (pd_kq.kx (k880) f849)) (pd_kq.kx (k887) f881)) f888 (fun j hj => Or.inr ⟨fun z => by first | (simp at z; done) | (simp at z; omega), rfl⟩)), fun t9 ht9 => by rw [hp] at ht9; cases ht9; exact ⟨rfl, rfl, rfl, rfl⟩⟩ (by decide) (by decide) d_p15m16_257
                          · -- not taken: 217
                            refine lv_iconst (v := nI 1) hx hb d_p15m16_217 (by decide) ?_
                            refine lv_goto (tgt := 222) hx hb d_p15m16_218 (by decide) ?_
                            refine pd_put (ty := .int) X w f849 hz_y rfl 39 (by decide) mT_1178 rfl rfl (by decide +kernel) rfl rfl (Nat.le_of_ble_eq_true rfl) d_p15m16_222 (fun H locs w => ?_)
                            have w : pd_w G s H locs (pd_up h847 y (20, .inr (10, [.ref (ad 0), .ref (ad 1), .ref (ad 2), .int (iv 3), .int (iv 4), .int (iv 5), .ref (ad 6), .ref (ad 7), .ref (ad 8), .ref (ad 9), .ref (ad 10), .ref (ad 11), .int (iv 12), .ref (ad 13), .ref (ad 14), .ref (ad 15), .ref (ad 16), .ref (ad 17), .ref (ad 18), .ref (ad 19), .int (iv 20), .ref (ad 21), .ref (ad 22), .ref (ad 23), .ref (ad 24), .ref (ad 25), .ref (ad 26), .ref (ad 27), .ref (ad 28), .int (iv 29), .ref (ad 30), .ref (ad 31), .int (iv 32), .int (iv 33), .int (iv 34), .int (iv 35), .long tl, .int (nI 1), .int (nI (gm_name cs (sA i0) (eA i0))), .int (nI 1), .int (nI (eA i0)), .ref (ad 41), .ref (ad 42), .int (iv 43)]))) := w
                            obtain ⟨h899, u902⟩ : ∃ z, z = pd_up h847 y (20, .inr (10, [.ref (ad 0), .ref (ad 1), .ref (ad 2), .int (iv 3), .int (iv 4), .int (iv 5), .ref (ad 6), .ref (ad 7), .ref (ad 8), .ref (ad 9), .ref (ad 10), .ref (ad 11), .int (iv 12), .ref (ad 13), .ref (ad 14), .ref (ad 15), .ref (ad 16), .ref (ad 17), .ref (ad 18), .ref (ad 19), .int (iv 20), .ref (ad 21), .ref (ad 22), .ref (ad 23), .ref (ad 24), .ref (ad 25), .ref (ad 26), .ref (ad 27), .ref (ad 28), .int (iv 29), .ref (ad 30), .ref (ad 31), .int (iv 32), .int (iv 33), .int (iv 34), .int (iv 35), .long tl, .int (nI 1), .int (nI (gm_name cs (sA i0) (eA i0))), .int (nI 1), .int (nI (eA i0)), .ref (ad 41), .ref (ad 42), .int (iv 43)])) := ⟨_, rfl⟩
                            rw [← u902] at w
                            have k900 : pd_kq y h847 h899 := by rw [u902]; exact pd_up_kq
                            have f901 : h899 y = some (20, .inr (10, [.ref (ad 0), .ref (ad 1), .ref (ad 2), .int (iv 3), .int (iv 4), .int (iv 5), .ref (ad 6), .ref (ad 7), .ref (ad 8), .ref (ad 9), .ref (ad 10), .ref (ad 11), .int (iv 12), .ref (ad 13), .ref (ad 14), .ref (ad 15), .ref (ad 16), .ref (ad 17), .ref (ad 18), .ref (ad 19), .int (iv 20), .ref (ad 21), .ref (ad 22), .ref (ad 23), .ref (ad 24), .ref (ad 25), .ref (ad 26), .ref (ad 27), .ref (ad 28), .int (iv 29), .ref (ad 30), .ref (ad 31), .int (iv 32), .int (iv 33), .int (iv 34), .int (iv 35), .long tl, .int (nI 1), .int (nI (gm_name cs (sA i0) (eA i0))), .int (nI 1), .int (nI (eA i0)), .ref (ad 41), .ref (ad 42), .int (iv 43)])) := by rw [u902]; exact pd_up_s _ _ _
                            have f903 := k900 _ _ (pd_ne f851 f849 (by simp)) f851
                            have f904 := k900 _ _ (pd_ne f852 f849 (by simp)) f852
                            have f905 := k900 _ _ (pd_ne f853 f849 (by simp)) f853
                            refine lv_aload_n hx hb d_p15m16_225 rfl (lv_at hl 2 rfl) ?_
                            refine lv_iload_n hx hb d_p15m16_226 rfl (lv_at hl 0 rfl) ?_
                            refine lv_iconst (v := nI 1) hx hb d_p15m16_227 (by decide) ?_
                            refine pd_iadd hx hb d_p15m16_228 ?_
                            refine pd_put (ty := .int) X w f901 hz_y rfl 40 (by decide) mT_1179 rfl rfl (by decide +kernel) rfl rfl (Nat.le_of_ble_eq_true rfl) d_p15m16_229 (fun H locs w => ?_)
                            have w : pd_w G s H locs (pd_up h899 y (20, .inr (10, [.ref (ad 0), .ref (ad 1), .ref (ad 2), .int (iv 3), .int (iv 4), .int (iv 5), .ref (ad 6), .ref (ad 7), .ref (ad 8), .ref (ad 9), .ref (ad 10), .ref (ad 11), .int (iv 12), .ref (ad 13), .ref (ad 14), .ref (ad 15), .ref (ad 16), .ref (ad 17), .ref (ad 18), .ref (ad 19), .int (iv 20), .ref (ad 21), .ref (ad 22), .ref (ad 23), .ref (ad 24), .ref (ad 25), .ref (ad 26), .ref (ad 27), .ref (ad 28), .int (iv 29), .ref (ad 30), .ref (ad 31), .int (iv 32), .int (iv 33), .int (iv 34), .int (iv 35), .long tl, .int (nI 1), .int (nI (gm_name cs (sA i0) (eA i0))), .int (nI 1), .int (nI (((gm_name cs (sA i0) (eA i0)) + 2) + 1)), .ref (ad 41), .ref (ad 42), .int (iv 43)]))) := w
                            obtain ⟨h906, u909⟩ : ∃ z, z = pd_up h899 y (20, .inr (10, [.ref (ad 0), .ref (ad 1), .ref (ad 2), .int (iv 3), .int (iv 4), .int (iv 5), .ref (ad 6), .ref (ad 7), .ref (ad 8), .ref (ad 9), .ref (ad 10), .ref (ad 11), .int (iv 12), .ref (ad 13), .ref (ad 14), .ref (ad 15), .ref (ad 16), .ref (ad 17), .ref (ad 18), .ref (ad 19), .int (iv 20), .ref (ad 21), .ref (ad 22), .ref (ad 23), .ref (ad 24), .ref (ad 25), .ref (ad 26), .ref (ad 27), .ref (ad 28), .int (iv 29), .ref (ad 30), .ref (ad 31), .int (iv 32), .int (iv 33), .int (iv 34), .int (iv 35), .long tl, .int (nI 1), .int (nI (gm_name cs (sA i0) (eA i0))), .int (nI 1), .int (nI (((gm_name cs (sA i0) (eA i0)) + 2) + 1)), .ref (ad 41), .ref (ad 42), .int (iv 43)])) := ⟨_, rfl⟩
                            rw [← u909] at w
                            have k907 : pd_kq y h899 h906 := by rw [u909]; exact pd_up_kq
                            have f908 : h906 y = some (20, .inr (10, [.ref (ad 0), .ref (ad 1), .ref (ad 2), .int (iv 3), .int (iv 4), .int (iv 5), .ref (ad 6), .ref (ad 7), .ref (ad 8), .ref (ad 9), .ref (ad 10), .ref (ad 11), .int (iv 12), .ref (ad 13), .ref (ad 14), .ref (ad 15), .ref (ad 16), .ref (ad 17), .ref (ad 18), .ref (ad 19), .int (iv 20), .ref (ad 21), .ref (ad 22), .ref (ad 23), .ref (ad 24), .ref (ad 25), .ref (ad 26), .ref (ad 27), .ref (ad 28), .int (iv 29), .ref (ad 30), .ref (ad 31), .int (iv 32), .int (iv 33), .int (iv 34), .int (iv 35), .long tl, .int (nI 1), .int (nI (gm_name cs (sA i0) (eA i0))), .int (nI 1), .int (nI (((gm_name cs (sA i0) (eA i0)) + 2) + 1)), .ref (ad 41), .ref (ad 42), .int (iv 43)])) := by rw [u909]; exact pd_up_s _ _ _
                            have f910 := k907 _ _ (pd_ne f903 f901 (by simp)) f903
                            have f911 := k907 _ _ (pd_ne f904 f901 (by simp)) f904
                            have f912 := k907 _ _ (pd_ne f905 f901 (by simp)) f905
                            refine lv_aload_n hx hb d_p15m16_232 rfl (lv_at hl 2 rfl) ?_
                            refine pd_get X w f908 rfl 39 (by decide) mT_1178 rfl rfl d_p15m16_233 ?_
                            refine lv_iconst (v := nI 1) hx hb d_p15m16_236 (by decide) ?_
                            refine pd_jeq (tgt := 252) hx hb d_p15m16_237 (by decide) (by decide) (by decide) (fun _ => ?_) (fun q => absurd q (by decide))
                            refine lv_iconst (v := nI 1) hx hb d_p15m16_252 (by decide) ?_
                            refine lv_goto (tgt := 257) hx hb d_p15m16_253 (by decide) ?_
                            have hpt : gm_pt cs ((gm_name cs (sA i0) (eA i0)) + 2) (eA i0) = some (1, (gm_name cs (sA i0) (eA i0)) + 2 + 1) := by unfold gm_pt; rw [if_neg (by omega), if_neg (by omega), if_pos (by omega)]
                            have hp : gm_pat cs (sA i0) (eA i0) = some (1, gm_name cs (sA i0) (eA i0), 1, (gm_name cs (sA i0) (eA i0)) + 2 + 1) := by unfold gm_pat; rw [hph]; simp only [hpt]
                            refine W.eq (g2 := F0 m 257 ls [.int (pd_b true)]) rfl ?_
                            exact pd_zret (v := true) X w ⟨by rw [hp]; rfl, pd_kx.tr (pd_kx.tr (pd_kx.tr (pd_kx.tr (pd_kx.tr (pd_kx.tr (pd_kx.tr (pd_kx.tr (pd_kq.kx (k2) hy0) (pd_kq.kx (k9) f3)) (pd_kq.kx (k512) f10)) (pd_kq.kx (k519) f513)) (pd_kq.kx (k834) f520)) (pd_kq.kx (k841) f835)) (pd_kq.kx (k848) f842)) (pd_kq.kx (k900) f849)) (pd_kq.kx (k907) f901), (nI 1), (nI (gm_name cs (sA i0) (eA i0))), (nI 1), (nI (((gm_name cs (sA i0) (eA i0)) + 2) + 1)), (pd_MO.of (fv2 := fv) (iv2 := pd_fu (pd_fu (pd_fu (pd_fu iv 37 (nI 1)) 38 (nI (gm_name cs (sA i0) (eA i0)))) 39 (nI 1)) 40 (nI (((gm_name cs (sA i0) (eA i0)) + 2) + 1))) (tl2 := tl) (ts := [20]) hMO (pd_kx.tr (pd_kx.tr (pd_kx.tr (pd_kx.tr (pd_kx.tr (pd_kx.tr (pd_kx.tr (pd_kx.tr (pd_kq.kx (k2) hy0) (pd_kq.kx (k9) f3)) (pd_kq.kx (k512) f10)) (pd_kq.kx (k519) f513)) (pd_kq.kx (k834) f520)) (pd_kq.kx (k841) f835)) (pd_kq.kx (k848) f842)) (pd_kq.kx (k900) f849)) (pd_kq.kx (k907) f901)) f908 (fun j hj => Or.inr ⟨fun z => by first | (simp at z; done) | (simp at z; omega), rfl⟩)), fun t9 ht9 => by rw [hp] at ht9; cases ht9; exact ⟨rfl, rfl, rfl, rfl⟩⟩ (by decide) (by decide) d_p15m16_257
                      · -- not taken: 194
                        refine lv_iconst (v := nI 0) hx hb d_p15m16_194 (by decide) ?_
                        have hpt : gm_pt cs ((gm_name cs (sA i0) (eA i0)) + 2) (eA i0) = none := by unfold gm_pt; rw [if_neg (by omega), if_pos (by omega)]
                        have hp : gm_pat cs (sA i0) (eA i0) = none := by unfold gm_pat; rw [hph]; simp only [hpt]
                        refine W.eq (g2 := F0 m 195 ls [.int (pd_b false)]) rfl ?_
                        exact pd_zret (v := false) X w ⟨by rw [hp]; rfl, pd_kx.tr (pd_kx.tr (pd_kx.tr (pd_kx.tr (pd_kx.tr (pd_kx.tr (pd_kq.kx (k2) hy0) (pd_kq.kx (k9) f3)) (pd_kq.kx (k512) f10)) (pd_kq.kx (k519) f513)) (pd_kq.kx (k834) f520)) (pd_kq.kx (k841) f835)) (pd_kq.kx (k848) f842), (nI 1), (nI (gm_name cs (sA i0) (eA i0))), (nI 0), (nI (eA i0)), (pd_MO.of (fv2 := fv) (iv2 := pd_fu (pd_fu (pd_fu (pd_fu iv 37 (nI 1)) 38 (nI (gm_name cs (sA i0) (eA i0)))) 39 (nI 0)) 40 (nI (eA i0))) (tl2 := tl) (ts := [20]) hMO (pd_kx.tr (pd_kx.tr (pd_kx.tr (pd_kx.tr (pd_kx.tr (pd_kx.tr (pd_kq.kx (k2) hy0) (pd_kq.kx (k9) f3)) (pd_kq.kx (k512) f10)) (pd_kq.kx (k519) f513)) (pd_kq.kx (k834) f520)) (pd_kq.kx (k841) f835)) (pd_kq.kx (k848) f842)) f849 (fun j hj => Or.inr ⟨fun z => by first | (simp at z; done) | (simp at z; omega), rfl⟩)), fun t9 ht9 => by rw [hp] at ht9; cases ht9⟩ (by decide) (by decide) d_p15m16_195
                  · -- not taken: 174
                    refine lv_iconst (v := nI 1) hx hb d_p15m16_174 (by decide) ?_
                    have hpt : gm_pt cs ((gm_name cs (sA i0) (eA i0)) + 2) (eA i0) = some (0, eA i0) := by unfold gm_pt; rw [if_pos (by omega)]
                    have hp : gm_pat cs (sA i0) (eA i0) = some (1, gm_name cs (sA i0) (eA i0), 0, eA i0) := by unfold gm_pat; rw [hph]; simp only [hpt]
                    refine W.eq (g2 := F0 m 175 ls [.int (pd_b true)]) rfl ?_
                    exact pd_zret (v := true) X w ⟨by rw [hp]; rfl, pd_kx.tr (pd_kx.tr (pd_kx.tr (pd_kx.tr (pd_kx.tr (pd_kx.tr (pd_kq.kx (k2) hy0) (pd_kq.kx (k9) f3)) (pd_kq.kx (k512) f10)) (pd_kq.kx (k519) f513)) (pd_kq.kx (k834) f520)) (pd_kq.kx (k841) f835)) (pd_kq.kx (k848) f842), (nI 1), (nI (gm_name cs (sA i0) (eA i0))), (nI 0), (nI (eA i0)), (pd_MO.of (fv2 := fv) (iv2 := pd_fu (pd_fu (pd_fu (pd_fu iv 37 (nI 1)) 38 (nI (gm_name cs (sA i0) (eA i0)))) 39 (nI 0)) 40 (nI (eA i0))) (tl2 := tl) (ts := [20]) hMO (pd_kx.tr (pd_kx.tr (pd_kx.tr (pd_kx.tr (pd_kx.tr (pd_kx.tr (pd_kq.kx (k2) hy0) (pd_kq.kx (k9) f3)) (pd_kq.kx (k512) f10)) (pd_kq.kx (k519) f513)) (pd_kq.kx (k834) f520)) (pd_kq.kx (k841) f835)) (pd_kq.kx (k848) f842)) f849 (fun j hj => Or.inr ⟨fun z => by first | (simp at z; done) | (simp at z; omega), rfl⟩)), fun t9 ht9 => by rw [hp] at ht9; cases ht9; exact ⟨rfl, rfl, rfl, rfl⟩⟩ (by decide) (by decide) d_p15m16_175
                · -- not taken: 142
                  refine lv_iconst (v := nI 2) hx hb d_p15m16_142 (by decide) ?_
                  refine lv_goto (tgt := 147) hx hb d_p15m16_143 (by decide) ?_
                  refine pd_put (ty := .int) X w f520 hz_y rfl 37 (by decide) mT_1176 rfl rfl (by decide +kernel) rfl rfl (Nat.le_of_ble_eq_true rfl) d_p15m16_147 (fun H locs w => ?_)
                  have w : pd_w G s H locs (pd_up h518 y (20, .inr (10, [.ref (ad 0), .ref (ad 1), .ref (ad 2), .int (iv 3), .int (iv 4), .int (iv 5), .ref (ad 6), .ref (ad 7), .ref (ad 8), .ref (ad 9), .ref (ad 10), .ref (ad 11), .int (iv 12), .ref (ad 13), .ref (ad 14), .ref (ad 15), .ref (ad 16), .ref (ad 17), .ref (ad 18), .ref (ad 19), .int (iv 20), .ref (ad 21), .ref (ad 22), .ref (ad 23), .ref (ad 24), .ref (ad 25), .ref (ad 26), .ref (ad 27), .ref (ad 28), .int (iv 29), .ref (ad 30), .ref (ad 31), .int (iv 32), .int (iv 33), .int (iv 34), .int (iv 35), .long tl, .int (nI 2), .int (nI (gm_name cs (sA i0) (eA i0))), .int (iv 39), .int (iv 40), .ref (ad 41), .ref (ad 42), .int (iv 43)]))) := w
                  obtain ⟨h914, u917⟩ : ∃ z, z = pd_up h518 y (20, .inr (10, [.ref (ad 0), .ref (ad 1), .ref (ad 2), .int (iv 3), .int (iv 4), .int (iv 5), .ref (ad 6), .ref (ad 7), .ref (ad 8), .ref (ad 9), .ref (ad 10), .ref (ad 11), .int (iv 12), .ref (ad 13), .ref (ad 14), .ref (ad 15), .ref (ad 16), .ref (ad 17), .ref (ad 18), .ref (ad 19), .int (iv 20), .ref (ad 21), .ref (ad 22), .ref (ad 23), .ref (ad 24), .ref (ad 25), .ref (ad 26), .ref (ad 27), .ref (ad 28), .int (iv 29), .ref (ad 30), .ref (ad 31), .int (iv 32), .int (iv 33), .int (iv 34), .int (iv 35), .long tl, .int (nI 2), .int (nI (gm_name cs (sA i0) (eA i0))), .int (iv 39), .int (iv 40), .ref (ad 41), .ref (ad 42), .int (iv 43)])) := ⟨_, rfl⟩
                  rw [← u917] at w
                  have k915 : pd_kq y h518 h914 := by rw [u917]; exact pd_up_kq
                  have f916 : h914 y = some (20, .inr (10, [.ref (ad 0), .ref (ad 1), .ref (ad 2), .int (iv 3), .int (iv 4), .int (iv 5), .ref (ad 6), .ref (ad 7), .ref (ad 8), .ref (ad 9), .ref (ad 10), .ref (ad 11), .int (iv 12), .ref (ad 13), .ref (ad 14), .ref (ad 15), .ref (ad 16), .ref (ad 17), .ref (ad 18), .ref (ad 19), .int (iv 20), .ref (ad 21), .ref (ad 22), .ref (ad 23), .ref (ad 24), .ref (ad 25), .ref (ad 26), .ref (ad 27), .ref (ad 28), .int (iv 29), .ref (ad 30), .ref (ad 31), .int (iv 32), .int (iv 33), .int (iv 34), .int (iv 35), .long tl, .int (nI 2), .int (nI (gm_name cs (sA i0) (eA i0))), .int (iv 39), .int (iv 40), .ref (ad 41), .ref (ad 42), .int (iv 43)])) := by rw [u917]; exact pd_up_s _ _ _
                  have f918 := k915 _ _ (pd_ne f522 f520 (by simp)) f522
                  have f919 := k915 _ _ (pd_ne f523 f520 (by simp)) f523
                  have f920 := k915 _ _ (pd_ne f524 f520 (by simp)) f524
                  refine lv_iload_n hx hb d_p15m16_150 rfl (lv_at hl 0 rfl) ?_
                  refine lv_iconst (v := nI 1) hx hb d_p15m16_151 (by decide) ?_
                  refine lv_aload_n hx hb d_p15m16_152 rfl (lv_at hl 2 rfl) ?_
                  refine pd_get X w f916 rfl 37 (by decide) mT_1176 rfl rfl d_p15m16_153 ?_
                  refine pd_iadd hx hb d_p15m16_156 ?_
                  refine pd_iadd hx hb d_p15m16_157 ?_
                  refine lv_istore_n (lv' := [(2, .int (nI ((gm_name cs (sA i0) (eA i0)) + 3))), (3, .int (nI (eA i0))), (0, .ref y), (1, .int (nI i0))]) hx hb d_p15m16_158 rfl hl (by decide) rfl (fun ls hl => ?_)
                  have hph : gm_ph cs (sA i0) (eA i0) = some (2, gm_name cs (sA i0) (eA i0), (gm_name cs (sA i0) (eA i0)) + 3) := by unfold gm_ph; rw [if_neg (by omega), if_neg (by omega), if_pos (by omega), if_pos (by omega)]
                  refine lv_aload_n hx hb d_p15m16_159 rfl (lv_at hl 2 rfl) ?_
                  refine lv_iconst (v := nI 0) hx hb d_p15m16_160 (by decide) ?_
                  refine pd_put (ty := .int) X w f916 hz_y rfl 39 (by decide) mT_1178 rfl rfl (by decide +kernel) rfl rfl (Nat.le_of_ble_eq_true rfl) d_p15m16_161 (fun H locs w => ?_)
                  have w : pd_w G s H locs (pd_up h914 y (20, .inr (10, [.ref (ad 0), .ref (ad 1), .ref (ad 2), .int (iv 3), .int (iv 4), .int (iv 5), .ref (ad 6), .ref (ad 7), .ref (ad 8), .ref (ad 9), .ref (ad 10), .ref (ad 11), .int (iv 12), .ref (ad 13), .ref (ad 14), .ref (ad 15), .ref (ad 16), .ref (ad 17), .ref (ad 18), .ref (ad 19), .int (iv 20), .ref (ad 21), .ref (ad 22), .ref (ad 23), .ref (ad 24), .ref (ad 25), .ref (ad 26), .ref (ad 27), .ref (ad 28), .int (iv 29), .ref (ad 30), .ref (ad 31), .int (iv 32), .int (iv 33), .int (iv 34), .int (iv 35), .long tl, .int (nI 2), .int (nI (gm_name cs (sA i0) (eA i0))), .int (nI 0), .int (iv 40), .ref (ad 41), .ref (ad 42), .int (iv 43)]))) := w
                  obtain ⟨h921, u924⟩ : ∃ z, z = pd_up h914 y (20, .inr (10, [.ref (ad 0), .ref (ad 1), .ref (ad 2), .int (iv 3), .int (iv 4), .int (iv 5), .ref (ad 6), .ref (ad 7), .ref (ad 8), .ref (ad 9), .ref (ad 10), .ref (ad 11), .int (iv 12), .ref (ad 13), .ref (ad 14), .ref (ad 15), .ref (ad 16), .ref (ad 17), .ref (ad 18), .ref (ad 19), .int (iv 20), .ref (ad 21), .ref (ad 22), .ref (ad 23), .ref (ad 24), .ref (ad 25), .ref (ad 26), .ref (ad 27), .ref (ad 28), .int (iv 29), .ref (ad 30), .ref (ad 31), .int (iv 32), .int (iv 33), .int (iv 34), .int (iv 35), .long tl, .int (nI 2), .int (nI (gm_name cs (sA i0) (eA i0))), .int (nI 0), .int (iv 40), .ref (ad 41), .ref (ad 42), .int (iv 43)])) := ⟨_, rfl⟩
                  rw [← u924] at w
                  have k922 : pd_kq y h914 h921 := by rw [u924]; exact pd_up_kq
                  have f923 : h921 y = some (20, .inr (10, [.ref (ad 0), .ref (ad 1), .ref (ad 2), .int (iv 3), .int (iv 4), .int (iv 5), .ref (ad 6), .ref (ad 7), .ref (ad 8), .ref (ad 9), .ref (ad 10), .ref (ad 11), .int (iv 12), .ref (ad 13), .ref (ad 14), .ref (ad 15), .ref (ad 16), .ref (ad 17), .ref (ad 18), .ref (ad 19), .int (iv 20), .ref (ad 21), .ref (ad 22), .ref (ad 23), .ref (ad 24), .ref (ad 25), .ref (ad 26), .ref (ad 27), .ref (ad 28), .int (iv 29), .ref (ad 30), .ref (ad 31), .int (iv 32), .int (iv 33), .int (iv 34), .int (iv 35), .long tl, .int (nI 2), .int (nI (gm_name cs (sA i0) (eA i0))), .int (nI 0), .int (iv 40), .ref (ad 41), .ref (ad 42), .int (iv 43)])) := by rw [u924]; exact pd_up_s _ _ _
                  have f925 := k922 _ _ (pd_ne f918 f916 (by simp)) f918
                  have f926 := k922 _ _ (pd_ne f919 f916 (by simp)) f919
                  have f927 := k922 _ _ (pd_ne f920 f916 (by simp)) f920
                  refine lv_aload_n hx hb d_p15m16_164 rfl (lv_at hl 2 rfl) ?_
                  refine lv_iload_n hx hb d_p15m16_165 rfl (lv_at hl 1 rfl) ?_
                  refine pd_put (ty := .int) X w f923 hz_y rfl 40 (by decide) mT_1179 rfl rfl (by decide +kernel) rfl rfl (Nat.le_of_ble_eq_true rfl) d_p15m16_166 (fun H locs w => ?_)
                  have w : pd_w G s H locs (pd_up h921 y (20, .inr (10, [.ref (ad 0), .ref (ad 1), .ref (ad 2), .int (iv 3), .int (iv 4), .int (iv 5), .ref (ad 6), .ref (ad 7), .ref (ad 8), .ref (ad 9), .ref (ad 10), .ref (ad 11), .int (iv 12), .ref (ad 13), .ref (ad 14), .ref (ad 15), .ref (ad 16), .ref (ad 17), .ref (ad 18), .ref (ad 19), .int (iv 20), .ref (ad 21), .ref (ad 22), .ref (ad 23), .ref (ad 24), .ref (ad 25), .ref (ad 26), .ref (ad 27), .ref (ad 28), .int (iv 29), .ref (ad 30), .ref (ad 31), .int (iv 32), .int (iv 33), .int (iv 34), .int (iv 35), .long tl, .int (nI 2), .int (nI (gm_name cs (sA i0) (eA i0))), .int (nI 0), .int (nI (eA i0)), .ref (ad 41), .ref (ad 42), .int (iv 43)]))) := w
                  obtain ⟨h928, u931⟩ : ∃ z, z = pd_up h921 y (20, .inr (10, [.ref (ad 0), .ref (ad 1), .ref (ad 2), .int (iv 3), .int (iv 4), .int (iv 5), .ref (ad 6), .ref (ad 7), .ref (ad 8), .ref (ad 9), .ref (ad 10), .ref (ad 11), .int (iv 12), .ref (ad 13), .ref (ad 14), .ref (ad 15), .ref (ad 16), .ref (ad 17), .ref (ad 18), .ref (ad 19), .int (iv 20), .ref (ad 21), .ref (ad 22), .ref (ad 23), .ref (ad 24), .ref (ad 25), .ref (ad 26), .ref (ad 27), .ref (ad 28), .int (iv 29), .ref (ad 30), .ref (ad 31), .int (iv 32), .int (iv 33), .int (iv 34), .int (iv 35), .long tl, .int (nI 2), .int (nI (gm_name cs (sA i0) (eA i0))), .int (nI 0), .int (nI (eA i0)), .ref (ad 41), .ref (ad 42), .int (iv 43)])) := ⟨_, rfl⟩
                  rw [← u931] at w
                  have k929 : pd_kq y h921 h928 := by rw [u931]; exact pd_up_kq
                  have f930 : h928 y = some (20, .inr (10, [.ref (ad 0), .ref (ad 1), .ref (ad 2), .int (iv 3), .int (iv 4), .int (iv 5), .ref (ad 6), .ref (ad 7), .ref (ad 8), .ref (ad 9), .ref (ad 10), .ref (ad 11), .int (iv 12), .ref (ad 13), .ref (ad 14), .ref (ad 15), .ref (ad 16), .ref (ad 17), .ref (ad 18), .ref (ad 19), .int (iv 20), .ref (ad 21), .ref (ad 22), .ref (ad 23), .ref (ad 24), .ref (ad 25), .ref (ad 26), .ref (ad 27), .ref (ad 28), .int (iv 29), .ref (ad 30), .ref (ad 31), .int (iv 32), .int (iv 33), .int (iv 34), .int (iv 35), .long tl, .int (nI 2), .int (nI (gm_name cs (sA i0) (eA i0))), .int (nI 0), .int (nI (eA i0)), .ref (ad 41), .ref (ad 42), .int (iv 43)])) := by rw [u931]; exact pd_up_s _ _ _
                  have f932 := k929 _ _ (pd_ne f925 f923 (by simp)) f925
                  have f933 := k929 _ _ (pd_ne f926 f923 (by simp)) f926
                  have f934 := k929 _ _ (pd_ne f927 f923 (by simp)) f927
                  refine lv_iload_n hx hb d_p15m16_169 rfl (lv_at hl 0 rfl) ?_
                  refine lv_iload_n hx hb d_p15m16_170 rfl (lv_at hl 1 rfl) ?_
                  refine pd_jne (tgt := 176) hx hb d_p15m16_171 (by decide) (by omega) (by omega) (fun q935 => ?_) (fun q935 => ?_)
                  · -- taken: 176
                    refine lv_aload_n hx hb d_p15m16_176 rfl (lv_at hl 2 rfl) ?_
                    refine pd_get X w f930 rfl 0 (by decide) mT_1139 rfl rfl d_p15m16_177 ?_
                    refine lv_iload_n hx hb d_p15m16_180 rfl (lv_at hl 0 rfl) ?_
                    refine pd_iald X w f932 (by omega) (by omega) d_p15m16_181 ?_
                    refine pd_top (v' := .int (nI (cs.getD ((gm_name cs (sA i0) (eA i0)) + 3) 0))) (congrArg Value.int (hln _ (by omega))) ?_
                    have := tx_lt hlc ((gm_name cs (sA i0) (eA i0)) + 3)
                    refine lv_bipush (v := nI 46) hx hb d_p15m16_182 (by decide) ?_
                    refine pd_jne (tgt := 194) hx hb d_p15m16_184 (by decide) (by omega) (by omega) (fun q936 => ?_) (fun q936 => ?_)
                    · -- taken: 194
                      refine lv_iconst (v := nI 0) hx hb d_p15m16_194 (by decide) ?_
                      have hpt : gm_pt cs ((gm_name cs (sA i0) (eA i0)) + 3) (eA i0) = none := by unfold gm_pt; rw [if_neg (by omega), if_pos (by omega)]
                      have hp : gm_pat cs (sA i0) (eA i0) = none := by unfold gm_pat; rw [hph]; simp only [hpt]
                      refine W.eq (g2 := F0 m 195 ls [.int (pd_b false)]) rfl ?_
                      exact pd_zret (v := false) X w ⟨by rw [hp]; rfl, pd_kx.tr (pd_kx.tr (pd_kx.tr (pd_kx.tr (pd_kx.tr (pd_kx.tr (pd_kq.kx (k2) hy0) (pd_kq.kx (k9) f3)) (pd_kq.kx (k512) f10)) (pd_kq.kx (k519) f513)) (pd_kq.kx (k915) f520)) (pd_kq.kx (k922) f916)) (pd_kq.kx (k929) f923), (nI 2), (nI (gm_name cs (sA i0) (eA i0))), (nI 0), (nI (eA i0)), (pd_MO.of (fv2 := fv) (iv2 := pd_fu (pd_fu (pd_fu (pd_fu iv 37 (nI 2)) 38 (nI (gm_name cs (sA i0) (eA i0)))) 39 (nI 0)) 40 (nI (eA i0))) (tl2 := tl) (ts := [20]) hMO (pd_kx.tr (pd_kx.tr (pd_kx.tr (pd_kx.tr (pd_kx.tr (pd_kx.tr (pd_kq.kx (k2) hy0) (pd_kq.kx (k9) f3)) (pd_kq.kx (k512) f10)) (pd_kq.kx (k519) f513)) (pd_kq.kx (k915) f520)) (pd_kq.kx (k922) f916)) (pd_kq.kx (k929) f923)) f930 (fun j hj => Or.inr ⟨fun z => by first | (simp at z; done) | (simp at z; omega), rfl⟩)), fun t9 ht9 => by rw [hp] at ht9; cases ht9⟩ (by decide) (by decide) d_p15m16_195
                    · -- not taken: 187
                      refine lv_iload_n hx hb d_p15m16_187 rfl (lv_at hl 0 rfl) ?_
                      refine lv_iconst (v := nI 1) hx hb d_p15m16_188 (by decide) ?_
                      refine pd_iadd hx hb d_p15m16_189 ?_
                      refine lv_iload_n hx hb d_p15m16_190 rfl (lv_at hl 1 rfl) ?_
                      refine pd_jne (tgt := 196) hx hb d_p15m16_191 (by decide) (by omega) (by omega) (fun q937 => ?_) (fun q937 => ?_)
                      · -- taken: 196
                        refine lv_aload_n hx hb d_p15m16_196 rfl (lv_at hl 2 rfl) ?_
                        refine lv_aload_n hx hb d_p15m16_197 rfl (lv_at hl 2 rfl) ?_
                        refine pd_get X w f930 rfl 0 (by decide) mT_1139 rfl rfl d_p15m16_198 ?_
                        refine lv_iload_n hx hb d_p15m16_201 rfl (lv_at hl 0 rfl) ?_
                        refine lv_iconst (v := nI 1) hx hb d_p15m16_202 (by decide) ?_
                        refine pd_iadd hx hb d_p15m16_203 ?_
                        refine pd_iald X w f932 (by omega) (by omega) d_p15m16_204 ?_
                        refine pd_top (v' := .int (nI (cs.getD (((gm_name cs (sA i0) (eA i0)) + 3) + 1) 0))) (congrArg Value.int (hln _ (by omega))) ?_
                        have := tx_lt hlc (((gm_name cs (sA i0) (eA i0)) + 3) + 1)
                        refine lv_bipush (v := nI 42) hx hb d_p15m16_205 (by decide) ?_
                        refine pd_jne (tgt := 221) hx hb d_p15m16_207 (by decide) (by omega) (by omega) (fun q938 => ?_) (fun q938 => ?_)
                        · -- taken: 221
                          refine lv_iconst (v := nI 2) hx hb d_p15m16_221 (by decide) ?_
                          refine pd_put (ty := .int) X w f930 hz_y rfl 39 (by decide) mT_1178 rfl rfl (by decide +kernel) rfl rfl (Nat.le_of_ble_eq_true rfl) d_p15m16_222 (fun H locs w => ?_)
                          have w : pd_w G s H locs (pd_up h928 y (20, .inr (10, [.ref (ad 0), .ref (ad 1), .ref (ad 2), .int (iv 3), .int (iv 4), .int (iv 5), .ref (ad 6), .ref (ad 7), .ref (ad 8), .ref (ad 9), .ref (ad 10), .ref (ad 11), .int (iv 12), .ref (ad 13), .ref (ad 14), .ref (ad 15), .ref (ad 16), .ref (ad 17), .ref (ad 18), .ref (ad 19), .int (iv 20), .ref (ad 21), .ref (ad 22), .ref (ad 23), .ref (ad 24), .ref (ad 25), .ref (ad 26), .ref (ad 27), .ref (ad 28), .int (iv 29), .ref (ad 30), .ref (ad 31), .int (iv 32), .int (iv 33), .int (iv 34), .int (iv 35), .long tl, .int (nI 2), .int (nI (gm_name cs (sA i0) (eA i0))), .int (nI 2), .int (nI (eA i0)), .ref (ad 41), .ref (ad 42), .int (iv 43)]))) := w
                          obtain ⟨h939, u942⟩ : ∃ z, z = pd_up h928 y (20, .inr (10, [.ref (ad 0), .ref (ad 1), .ref (ad 2), .int (iv 3), .int (iv 4), .int (iv 5), .ref (ad 6), .ref (ad 7), .ref (ad 8), .ref (ad 9), .ref (ad 10), .ref (ad 11), .int (iv 12), .ref (ad 13), .ref (ad 14), .ref (ad 15), .ref (ad 16), .ref (ad 17), .ref (ad 18), .ref (ad 19), .int (iv 20), .ref (ad 21), .ref (ad 22), .ref (ad 23), .ref (ad 24), .ref (ad 25), .ref (ad 26), .ref (ad 27), .ref (ad 28), .int (iv 29), .ref (ad 30), .ref (ad 31), .int (iv 32), .int (iv 33), .int (iv 34), .int (iv 35), .long tl, .int (nI 2), .int (nI (gm_name cs (sA i0) (eA i0))), .int (nI 2), .int (nI (eA i0)), .ref (ad 41), .ref (ad 42), .int (iv 43)])) := ⟨_, rfl⟩
                          rw [← u942] at w
                          have k940 : pd_kq y h928 h939 := by rw [u942]; exact pd_up_kq
                          have f941 : h939 y = some (20, .inr (10, [.ref (ad 0), .ref (ad 1), .ref (ad 2), .int (iv 3), .int (iv 4), .int (iv 5), .ref (ad 6), .ref (ad 7), .ref (ad 8), .ref (ad 9), .ref (ad 10), .ref (ad 11), .int (iv 12), .ref (ad 13), .ref (ad 14), .ref (ad 15), .ref (ad 16), .ref (ad 17), .ref (ad 18), .ref (ad 19), .int (iv 20), .ref (ad 21), .ref (ad 22), .ref (ad 23), .ref (ad 24), .ref (ad 25), .ref (ad 26), .ref (ad 27), .ref (ad 28), .int (iv 29), .ref (ad 30), .ref (ad 31), .int (iv 32), .int (iv 33), .int (iv 34), .int (iv 35), .long tl, .int (nI 2), .int (nI (gm_name cs (sA i0) (eA i0))), .int (nI 2), .int (nI (eA i0)), .ref (ad 41), .ref (ad 42), .int (iv 43)])) := by rw [u942]; exact pd_up_s _ _ _
                          have f943 := k940 _ _ (pd_ne f932 f930 (by simp)) f932
                          have f944 := k940 _ _ (pd_ne f933 f930 (by simp)) f933
                          have f945 := k940 _ _ (pd_ne f934 f930 (by simp)) f934
                          refine lv_aload_n hx hb d_p15m16_225 rfl (lv_at hl 2 rfl) ?_
                          refine lv_iload_n hx hb d_p15m16_226 rfl (lv_at hl 0 rfl) ?_
                          refine lv_iconst (v := nI 1) hx hb d_p15m16_227 (by decide) ?_
                          refine pd_iadd hx hb d_p15m16_228 ?_
                          refine pd_put (ty := .int) X w f941 hz_y rfl 40 (by decide) mT_1179 rfl rfl (by decide +kernel) rfl rfl (Nat.le_of_ble_eq_true rfl) d_p15m16_229 (fun H locs w => ?_)
                          have w : pd_w G s H locs (pd_up h939 y (20, .inr (10, [.ref (ad 0), .ref (ad 1), .ref (ad 2), .int (iv 3), .int (iv 4), .int (iv 5), .ref (ad 6), .ref (ad 7), .ref (ad 8), .ref (ad 9), .ref (ad 10), .ref (ad 11), .int (iv 12), .ref (ad 13), .ref (ad 14), .ref (ad 15), .ref (ad 16), .ref (ad 17), .ref (ad 18), .ref (ad 19), .int (iv 20), .ref (ad 21), .ref (ad 22), .ref (ad 23), .ref (ad 24), .ref (ad 25), .ref (ad 26), .ref (ad 27), .ref (ad 28), .int (iv 29), .ref (ad 30), .ref (ad 31), .int (iv 32), .int (iv 33), .int (iv 34), .int (iv 35), .long tl, .int (nI 2), .int (nI (gm_name cs (sA i0) (eA i0))), .int (nI 2), .int (nI (((gm_name cs (sA i0) (eA i0)) + 3) + 1)), .ref (ad 41), .ref (ad 42), .int (iv 43)]))) := w
                          obtain ⟨h946, u949⟩ : ∃ z, z = pd_up h939 y (20, .inr (10, [.ref (ad 0), .ref (ad 1), .ref (ad 2), .int (iv 3), .int (iv 4), .int (iv 5), .ref (ad 6), .ref (ad 7), .ref (ad 8), .ref (ad 9), .ref (ad 10), .ref (ad 11), .int (iv 12), .ref (ad 13), .ref (ad 14), .ref (ad 15), .ref (ad 16), .ref (ad 17), .ref (ad 18), .ref (ad 19), .int (iv 20), .ref (ad 21), .ref (ad 22), .ref (ad 23), .ref (ad 24), .ref (ad 25), .ref (ad 26), .ref (ad 27), .ref (ad 28), .int (iv 29), .ref (ad 30), .ref (ad 31), .int (iv 32), .int (iv 33), .int (iv 34), .int (iv 35), .long tl, .int (nI 2), .int (nI (gm_name cs (sA i0) (eA i0))), .int (nI 2), .int (nI (((gm_name cs (sA i0) (eA i0)) + 3) + 1)), .ref (ad 41), .ref (ad 42), .int (iv 43)])) := ⟨_, rfl⟩
                          rw [← u949] at w
                          have k947 : pd_kq y h939 h946 := by rw [u949]; exact pd_up_kq
                          have f948 : h946 y = some (20, .inr (10, [.ref (ad 0), .ref (ad 1), .ref (ad 2), .int (iv 3), .int (iv 4), .int (iv 5), .ref (ad 6), .ref (ad 7), .ref (ad 8), .ref (ad 9), .ref (ad 10), .ref (ad 11), .int (iv 12), .ref (ad 13), .ref (ad 14), .ref (ad 15), .ref (ad 16), .ref (ad 17), .ref (ad 18), .ref (ad 19), .int (iv 20), .ref (ad 21), .ref (ad 22), .ref (ad 23), .ref (ad 24), .ref (ad 25), .ref (ad 26), .ref (ad 27), .ref (ad 28), .int (iv 29), .ref (ad 30), .ref (ad 31), .int (iv 32), .int (iv 33), .int (iv 34), .int (iv 35), .long tl, .int (nI 2), .int (nI (gm_name cs (sA i0) (eA i0))), .int (nI 2), .int (nI (((gm_name cs (sA i0) (eA i0)) + 3) + 1)), .ref (ad 41), .ref (ad 42), .int (iv 43)])) := by rw [u949]; exact pd_up_s _ _ _
                          have f950 := k947 _ _ (pd_ne f943 f941 (by simp)) f943
                          have f951 := k947 _ _ (pd_ne f944 f941 (by simp)) f944
                          have f952 := k947 _ _ (pd_ne f945 f941 (by simp)) f945
                          refine lv_aload_n hx hb d_p15m16_232 rfl (lv_at hl 2 rfl) ?_
                          refine pd_get X w f948 rfl 39 (by decide) mT_1178 rfl rfl d_p15m16_233 ?_
                          refine lv_iconst (v := nI 1) hx hb d_p15m16_236 (by decide) ?_
                          refine pd_jeq (tgt := 252) hx hb d_p15m16_237 (by decide) (by decide) (by decide) (fun q => absurd q (by decide)) (fun _ => ?_)
                          refine lv_aload_n hx hb d_p15m16_240 rfl (lv_at hl 2 rfl) ?_
                          refine lv_iload_n hx hb d_p15m16_241 rfl (lv_at hl 0 rfl) ?_
                          refine lv_iconst (v := nI 1) hx hb d_p15m16_242 (by decide) ?_
                          refine pd_iadd hx hb d_p15m16_243 ?_
                          refine lv_iload_n hx hb d_p15m16_244 rfl (lv_at hl 1 rfl) ?_
                          refine pd_cV (a := y) (As := [.int (nI (((gm_name cs (sA i0) (eA i0)) + 3) + 1)), .int (nI (eA i0))]) (rest := []) X w f948 rfl (c_PolicyDeskModel_behindPart l G h946 (ad := ad) (fv := fv) (iv := pd_fu (pd_fu (pd_fu (pd_fu iv 37 (nI 2)) 38 (nI (gm_name cs (sA i0) (eA i0)))) 39 (nI 2)) 40 (nI (((gm_name cs (sA i0) (eA i0)) + 3) + 1))) (tl := tl) (pd_MO.of (fv2 := fv) (iv2 := pd_fu (pd_fu (pd_fu (pd_fu iv 37 (nI 2)) 38 (nI (gm_name cs (sA i0) (eA i0)))) 39 (nI 2)) 40 (nI (((gm_name cs (sA i0) (eA i0)) + 3) + 1))) (tl2 := tl) (ts := [20]) hMO (pd_kx.tr (pd_kx.tr (pd_kx.tr (pd_kx.tr (pd_kx.tr (pd_kx.tr (pd_kx.tr (pd_kx.tr (pd_kq.kx (k2) hy0) (pd_kq.kx (k9) f3)) (pd_kq.kx (k512) f10)) (pd_kq.kx (k519) f513)) (pd_kq.kx (k915) f520)) (pd_kq.kx (k922) f916)) (pd_kq.kx (k929) f923)) (pd_kq.kx (k940) f930)) (pd_kq.kx (k947) f941)) f948 (fun j hj => Or.inr ⟨fun z => by first | (simp at z; done) | (simp at z; omega), rfl⟩)) hL (by omega) (by omega)) ok_PolicyDeskModel_behindPart ⟨mT_1315, sT_19⟩ mT_1313 ⟨by decide, by decide⟩ rfl hl.1 rfl (Nat.le_of_ble_eq_true rfl) d_p15m16_245 ⟨by decide, by decide⟩ (fun r954 h955 H locs hp956 w => ?_)
                          refine W.widen (k := 0) (n := 0) (by decide) (by decide) ?_
                          obtain ⟨e957, rfl⟩ := hp956
                          have hpl := gm_part_le (cs := cs) (x := (gm_name cs (sA i0) (eA i0)) + 3 + 1) (to := eA i0) (by omega)
                          refine lv_iload_n hx hb d_p15m16_248 rfl (lv_at hl 1 rfl) ?_
                          refine pd_jne (tgt := 256) hx hb d_p15m16_249 (by decide) (by omega) (by omega) (fun q958 => ?_) (fun q958 => ?_)
                          · -- taken: 256
                            refine lv_iconst (v := nI 0) hx hb d_p15m16_256 (by decide) ?_
                            have hpt : gm_pt cs ((gm_name cs (sA i0) (eA i0)) + 3) (eA i0) = none := by unfold gm_pt; rw [if_neg (by omega), if_neg (by omega), if_neg (by omega), if_neg (by rw [← e957]; omega)]
                            have hp : gm_pat cs (sA i0) (eA i0) = none := by unfold gm_pat; rw [hph]; simp only [hpt]
                            refine W.eq (g2 := F0 m 257 ls [.int (pd_b false)]) rfl ?_
                            exact pd_zret (v := false) X w ⟨by rw [hp]; rfl, pd_kx.tr (pd_kx.tr (pd_kx.tr (pd_kx.tr (pd_kx.tr (pd_kx.tr (pd_kx.tr (pd_kx.tr (pd_kq.kx (k2) hy0) (pd_kq.kx (k9) f3)) (pd_kq.kx (k512) f10)) (pd_kq.kx (k519) f513)) (pd_kq.kx (k915) f520)) (pd_kq.kx (k922) f916)) (pd_kq.kx (k929) f923)) (pd_kq.kx (k940) f930)) (pd_kq.kx (k947) f941), (nI 2), (nI (gm_name cs (sA i0) (eA i0))), (nI 2), (nI (((gm_name cs (sA i0) (eA i0)) + 3) + 1)), (pd_MO.of (fv2 := fv) (iv2 := pd_fu (pd_fu (pd_fu (pd_fu iv 37 (nI 2)) 38 (nI (gm_name cs (sA i0) (eA i0)))) 39 (nI 2)) 40 (nI (((gm_name cs (sA i0) (eA i0)) + 3) + 1))) (tl2 := tl) (ts := [20]) hMO (pd_kx.tr (pd_kx.tr (pd_kx.tr (pd_kx.tr (pd_kx.tr (pd_kx.tr (pd_kx.tr (pd_kx.tr (pd_kq.kx (k2) hy0) (pd_kq.kx (k9) f3)) (pd_kq.kx (k512) f10)) (pd_kq.kx (k519) f513)) (pd_kq.kx (k915) f520)) (pd_kq.kx (k922) f916)) (pd_kq.kx (k929) f923)) (pd_kq.kx (k940) f930)) (pd_kq.kx (k947) f941)) f948 (fun j hj => Or.inr ⟨fun z => by first | (simp at z; done) | (simp at z; omega), rfl⟩)), fun t9 ht9 => by rw [hp] at ht9; cases ht9⟩ (by decide) (by decide) d_p15m16_257
                          · -- not taken: 252
                            refine lv_iconst (v := nI 1) hx hb d_p15m16_252 (by decide) ?_
                            refine lv_goto (tgt := 257) hx hb d_p15m16_253 (by decide) ?_
                            have hpt : gm_pt cs ((gm_name cs (sA i0) (eA i0)) + 3) (eA i0) = some (2, (gm_name cs (sA i0) (eA i0)) + 3 + 1) := by unfold gm_pt; rw [if_neg (by omega), if_neg (by omega), if_neg (by omega), if_pos (by rw [← e957]; omega)]
                            have hp : gm_pat cs (sA i0) (eA i0) = some (2, gm_name cs (sA i0) (eA i0), 2, (gm_name cs (sA i0) (eA i0)) + 3 + 1) := by unfold gm_pat; rw [hph]; simp only [hpt]
                            refine W.eq (g2 := F0 m 257 ls [.int (pd_b true)]) rfl ?_
                            exact pd_zret (v := true) X w ⟨by rw [hp]; rfl, pd_kx.tr (pd_kx.tr (pd_kx.tr (pd_kx.tr (pd_kx.tr (pd_kx.tr (pd_kx.tr (pd_kx.tr (pd_kq.kx (k2) hy0) (pd_kq.kx (k9) f3)) (pd_kq.kx (k512) f10)) (pd_kq.kx (k519) f513)) (pd_kq.kx (k915) f520)) (pd_kq.kx (k922) f916)) (pd_kq.kx (k929) f923)) (pd_kq.kx (k940) f930)) (pd_kq.kx (k947) f941), (nI 2), (nI (gm_name cs (sA i0) (eA i0))), (nI 2), (nI (((gm_name cs (sA i0) (eA i0)) + 3) + 1)), (pd_MO.of (fv2 := fv) (iv2 := pd_fu (pd_fu (pd_fu (pd_fu iv 37 (nI 2)) 38 (nI (gm_name cs (sA i0) (eA i0)))) 39 (nI 2)) 40 (nI (((gm_name cs (sA i0) (eA i0)) + 3) + 1))) (tl2 := tl) (ts := [20]) hMO (pd_kx.tr (pd_kx.tr (pd_kx.tr (pd_kx.tr (pd_kx.tr (pd_kx.tr (pd_kx.tr (pd_kx.tr (pd_kq.kx (k2) hy0) (pd_kq.kx (k9) f3)) (pd_kq.kx (k512) f10)) (pd_kq.kx (k519) f513)) (pd_kq.kx (k915) f520)) (pd_kq.kx (k922) f916)) (pd_kq.kx (k929) f923)) (pd_kq.kx (k940) f930)) (pd_kq.kx (k947) f941)) f948 (fun j hj => Or.inr ⟨fun z => by first | (simp at z; done) | (simp at z; omega), rfl⟩)), fun t9 ht9 => by rw [hp] at ht9; cases ht9; exact ⟨rfl, rfl, rfl, rfl⟩⟩ (by decide) (by decide) d_p15m16_257
                        · -- not taken: 210
                          refine lv_iload_n hx hb d_p15m16_210 rfl (lv_at hl 0 rfl) ?_
                          refine lv_iconst (v := nI 2) hx hb d_p15m16_211 (by decide) ?_
                          refine pd_iadd hx hb d_p15m16_212 ?_
                          refine lv_iload_n hx hb d_p15m16_213 rfl (lv_at hl 1 rfl) ?_
                          refine pd_jne (tgt := 221) hx hb d_p15m16_214 (by decide) (by omega) (by omega) (fun q959 => ?_) (fun q959 => ?_)
                          · -- taken: 221
                            refine lv_iconst (v := nI 2) hx hb d_p15m16_221 (by decide) ?_
                            refine pd_put (ty := .int) X w f930 hz_y rfl 39 (by decide) mT_1178 rfl rfl (by decide +kernel) rfl rfl (Nat.le_of_ble_eq_true rfl) d_p15m16_222 (fun H locs w => ?_)
                            have w : pd_w G s H locs (pd_up h928 y (20, .inr (10, [.ref (ad 0), .ref (ad 1), .ref (ad 2), .int (iv 3), .int (iv 4), .int (iv 5), .ref (ad 6), .ref (ad 7), .ref (ad 8), .ref (ad 9), .ref (ad 10), .ref (ad 11), .int (iv 12), .ref (ad 13), .ref (ad 14), .ref (ad 15), .ref (ad 16), .ref (ad 17), .ref (ad 18), .ref (ad 19), .int (iv 20), .ref (ad 21), .ref (ad 22), .ref (ad 23), .ref (ad 24), .ref (ad 25), .ref (ad 26), .ref (ad 27), .ref (ad 28), .int (iv 29), .ref (ad 30), .ref (ad 31), .int (iv 32), .int (iv 33), .int (iv 34), .int (iv 35), .long tl, .int (nI 2), .int (nI (gm_name cs (sA i0) (eA i0))), .int (nI 2), .int (nI (eA i0)), .ref (ad 41), .ref (ad 42), .int (iv 43)]))) := w
                            obtain ⟨h960, u963⟩ : ∃ z, z = pd_up h928 y (20, .inr (10, [.ref (ad 0), .ref (ad 1), .ref (ad 2), .int (iv 3), .int (iv 4), .int (iv 5), .ref (ad 6), .ref (ad 7), .ref (ad 8), .ref (ad 9), .ref (ad 10), .ref (ad 11), .int (iv 12), .ref (ad 13), .ref (ad 14), .ref (ad 15), .ref (ad 16), .ref (ad 17), .ref (ad 18), .ref (ad 19), .int (iv 20), .ref (ad 21), .ref (ad 22), .ref (ad 23), .ref (ad 24), .ref (ad 25), .ref (ad 26), .ref (ad 27), .ref (ad 28), .int (iv 29), .ref (ad 30), .ref (ad 31), .int (iv 32), .int (iv 33), .int (iv 34), .int (iv 35), .long tl, .int (nI 2), .int (nI (gm_name cs (sA i0) (eA i0))), .int (nI 2), .int (nI (eA i0)), .ref (ad 41), .ref (ad 42), .int (iv 43)])) := ⟨_, rfl⟩
                            rw [← u963] at w
                            have k961 : pd_kq y h928 h960 := by rw [u963]; exact pd_up_kq
                            have f962 : h960 y = some (20, .inr (10, [.ref (ad 0), .ref (ad 1), .ref (ad 2), .int (iv 3), .int (iv 4), .int (iv 5), .ref (ad 6), .ref (ad 7), .ref (ad 8), .ref (ad 9), .ref (ad 10), .ref (ad 11), .int (iv 12), .ref (ad 13), .ref (ad 14), .ref (ad 15), .ref (ad 16), .ref (ad 17), .ref (ad 18), .ref (ad 19), .int (iv 20), .ref (ad 21), .ref (ad 22), .ref (ad 23), .ref (ad 24), .ref (ad 25), .ref (ad 26), .ref (ad 27), .ref (ad 28), .int (iv 29), .ref (ad 30), .ref (ad 31), .int (iv 32), .int (iv 33), .int (iv 34), .int (iv 35), .long tl, .int (nI 2), .int (nI (gm_name cs (sA i0) (eA i0))), .int (nI 2), .int (nI (eA i0)), .ref (ad 41), .ref (ad 42), .int (iv 43)])) := by rw [u963]; exact pd_up_s _ _ _
                            have f964 := k961 _ _ (pd_ne f932 f930 (by simp)) f932
                            have f965 := k961 _ _ (pd_ne f933 f930 (by simp)) f933
                            have f966 := k961 _ _ (pd_ne f934 f930 (by simp)) f934
                            refine lv_aload_n hx hb d_p15m16_225 rfl (lv_at hl 2 rfl) ?_
                            refine lv_iload_n hx hb d_p15m16_226 rfl (lv_at hl 0 rfl) ?_
                            refine lv_iconst (v := nI 1) hx hb d_p15m16_227 (by decide) ?_
                            refine pd_iadd hx hb d_p15m16_228 ?_
                            refine pd_put (ty := .int) X w f962 hz_y rfl 40 (by decide) mT_1179 rfl rfl (by decide +kernel) rfl rfl (Nat.le_of_ble_eq_true rfl) d_p15m16_229 (fun H locs w => ?_)
                            have w : pd_w G s H locs (pd_up h960 y (20, .inr (10, [.ref (ad 0), .ref (ad 1), .ref (ad 2), .int (iv 3), .int (iv 4), .int (iv 5), .ref (ad 6), .ref (ad 7), .ref (ad 8), .ref (ad 9), .ref (ad 10), .ref (ad 11), .int (iv 12), .ref (ad 13), .ref (ad 14), .ref (ad 15), .ref (ad 16), .ref (ad 17), .ref (ad 18), .ref (ad 19), .int (iv 20), .ref (ad 21), .ref (ad 22), .ref (ad 23), .ref (ad 24), .ref (ad 25), .ref (ad 26), .ref (ad 27), .ref (ad 28), .int (iv 29), .ref (ad 30), .ref (ad 31), .int (iv 32), .int (iv 33), .int (iv 34), .int (iv 35), .long tl, .int (nI 2), .int (nI (gm_name cs (sA i0) (eA i0))), .int (nI 2), .int (nI (((gm_name cs (sA i0) (eA i0)) + 3) + 1)), .ref (ad 41), .ref (ad 42), .int (iv 43)]))) := w
                            obtain ⟨h967, u970⟩ : ∃ z, z = pd_up h960 y (20, .inr (10, [.ref (ad 0), .ref (ad 1), .ref (ad 2), .int (iv 3), .int (iv 4), .int (iv 5), .ref (ad 6), .ref (ad 7), .ref (ad 8), .ref (ad 9), .ref (ad 10), .ref (ad 11), .int (iv 12), .ref (ad 13), .ref (ad 14), .ref (ad 15), .ref (ad 16), .ref (ad 17), .ref (ad 18), .ref (ad 19), .int (iv 20), .ref (ad 21), .ref (ad 22), .ref (ad 23), .ref (ad 24), .ref (ad 25), .ref (ad 26), .ref (ad 27), .ref (ad 28), .int (iv 29), .ref (ad 30), .ref (ad 31), .int (iv 32), .int (iv 33), .int (iv 34), .int (iv 35), .long tl, .int (nI 2), .int (nI (gm_name cs (sA i0) (eA i0))), .int (nI 2), .int (nI (((gm_name cs (sA i0) (eA i0)) + 3) + 1)), .ref (ad 41), .ref (ad 42), .int (iv 43)])) := ⟨_, rfl⟩
                            rw [← u970] at w
                            have k968 : pd_kq y h960 h967 := by rw [u970]; exact pd_up_kq
                            have f969 : h967 y = some (20, .inr (10, [.ref (ad 0), .ref (ad 1), .ref (ad 2), .int (iv 3), .int (iv 4), .int (iv 5), .ref (ad 6), .ref (ad 7), .ref (ad 8), .ref (ad 9), .ref (ad 10), .ref (ad 11), .int (iv 12), .ref (ad 13), .ref (ad 14), .ref (ad 15), .ref (ad 16), .ref (ad 17), .ref (ad 18), .ref (ad 19), .int (iv 20), .ref (ad 21), .ref (ad 22), .ref (ad 23), .ref (ad 24), .ref (ad 25), .ref (ad 26), .ref (ad 27), .ref (ad 28), .int (iv 29), .ref (ad 30), .ref (ad 31), .int (iv 32), .int (iv 33), .int (iv 34), .int (iv 35), .long tl, .int (nI 2), .int (nI (gm_name cs (sA i0) (eA i0))), .int (nI 2), .int (nI (((gm_name cs (sA i0) (eA i0)) + 3) + 1)), .ref (ad 41), .ref (ad 42), .int (iv 43)])) := by rw [u970]; exact pd_up_s _ _ _
                            have f971 := k968 _ _ (pd_ne f964 f962 (by simp)) f964
                            have f972 := k968 _ _ (pd_ne f965 f962 (by simp)) f965
                            have f973 := k968 _ _ (pd_ne f966 f962 (by simp)) f966
                            refine lv_aload_n hx hb d_p15m16_232 rfl (lv_at hl 2 rfl) ?_
                            refine pd_get X w f969 rfl 39 (by decide) mT_1178 rfl rfl d_p15m16_233 ?_
                            refine lv_iconst (v := nI 1) hx hb d_p15m16_236 (by decide) ?_
                            refine pd_jeq (tgt := 252) hx hb d_p15m16_237 (by decide) (by decide) (by decide) (fun q => absurd q (by decide)) (fun _ => ?_)
                            refine lv_aload_n hx hb d_p15m16_240 rfl (lv_at hl 2 rfl) ?_
                            refine lv_iload_n hx hb d_p15m16_241 rfl (lv_at hl 0 rfl) ?_
                            refine lv_iconst (v := nI 1) hx hb d_p15m16_242 (by decide) ?_
                            refine pd_iadd hx hb d_p15m16_243 ?_
                            refine lv_iload_n hx hb d_p15m16_244 rfl (lv_at hl 1 rfl) ?_
                            refine pd_cV (a := y) (As := [.int (nI (((gm_name cs (sA i0) (eA i0)) + 3) + 1)), .int (nI (eA i0))]) (rest := []) X w f969 rfl (c_PolicyDeskModel_behindPart l G h967 (ad := ad) (fv := fv) (iv := pd_fu (pd_fu (pd_fu (pd_fu iv 37 (nI 2)) 38 (nI (gm_name cs (sA i0) (eA i0)))) 39 (nI 2)) 40 (nI (((gm_name cs (sA i0) (eA i0)) + 3) + 1))) (tl := tl) (pd_MO.of (fv2 := fv) (iv2 := pd_fu (pd_fu (pd_fu (pd_fu iv 37 (nI 2)) 38 (nI (gm_name cs (sA i0) (eA i0)))) 39 (nI 2)) 40 (nI (((gm_name cs (sA i0) (eA i0)) + 3) + 1))) (tl2 := tl) (ts := [20]) hMO (pd_kx.tr (pd_kx.tr (pd_kx.tr (pd_kx.tr (pd_kx.tr (pd_kx.tr (pd_kx.tr (pd_kx.tr (pd_kq.kx (k2) hy0) (pd_kq.kx (k9) f3)) (pd_kq.kx (k512) f10)) (pd_kq.kx (k519) f513)) (pd_kq.kx (k915) f520)) (pd_kq.kx (k922) f916)) (pd_kq.kx (k929) f923)) (pd_kq.kx (k961) f930)) (pd_kq.kx (k968) f962)) f969 (fun j hj => Or.inr ⟨fun z => by first | (simp at z; done) | (simp at z; omega), rfl⟩)) hL (by omega) (by omega)) ok_PolicyDeskModel_behindPart ⟨mT_1315, sT_19⟩ mT_1313 ⟨by decide, by decide⟩ rfl hl.1 rfl (Nat.le_of_ble_eq_true rfl) d_p15m16_245 ⟨by decide, by decide⟩ (fun r975 h976 H locs hp977 w => ?_)
                            refine W.widen (k := 0) (n := 0) (by decide) (by decide) ?_
                            obtain ⟨e978, rfl⟩ := hp977
                            have hpl := gm_part_le (cs := cs) (x := (gm_name cs (sA i0) (eA i0)) + 3 + 1) (to := eA i0) (by omega)
                            refine lv_iload_n hx hb d_p15m16_248 rfl (lv_at hl 1 rfl) ?_
                            refine pd_jne (tgt := 256) hx hb d_p15m16_249 (by decide) (by omega) (by omega) (fun q979 => ?_) (fun q979 => ?_)
                            · -- taken: 256
                              refine lv_iconst (v := nI 0) hx hb d_p15m16_256 (by decide) ?_
                              have hpt : gm_pt cs ((gm_name cs (sA i0) (eA i0)) + 3) (eA i0) = none := by unfold gm_pt; rw [if_neg (by omega), if_neg (by omega), if_neg (by omega), if_neg (by rw [← e978]; omega)]
                              have hp : gm_pat cs (sA i0) (eA i0) = none := by unfold gm_pat; rw [hph]; simp only [hpt]
                              refine W.eq (g2 := F0 m 257 ls [.int (pd_b false)]) rfl ?_
                              exact pd_zret (v := false) X w ⟨by rw [hp]; rfl, pd_kx.tr (pd_kx.tr (pd_kx.tr (pd_kx.tr (pd_kx.tr (pd_kx.tr (pd_kx.tr (pd_kx.tr (pd_kq.kx (k2) hy0) (pd_kq.kx (k9) f3)) (pd_kq.kx (k512) f10)) (pd_kq.kx (k519) f513)) (pd_kq.kx (k915) f520)) (pd_kq.kx (k922) f916)) (pd_kq.kx (k929) f923)) (pd_kq.kx (k961) f930)) (pd_kq.kx (k968) f962), (nI 2), (nI (gm_name cs (sA i0) (eA i0))), (nI 2), (nI (((gm_name cs (sA i0) (eA i0)) + 3) + 1)), (pd_MO.of (fv2 := fv) (iv2 := pd_fu (pd_fu (pd_fu (pd_fu iv 37 (nI 2)) 38 (nI (gm_name cs (sA i0) (eA i0)))) 39 (nI 2)) 40 (nI (((gm_name cs (sA i0) (eA i0)) + 3) + 1))) (tl2 := tl) (ts := [20]) hMO (pd_kx.tr (pd_kx.tr (pd_kx.tr (pd_kx.tr (pd_kx.tr (pd_kx.tr (pd_kx.tr (pd_kx.tr (pd_kq.kx (k2) hy0) (pd_kq.kx (k9) f3)) (pd_kq.kx (k512) f10)) (pd_kq.kx (k519) f513)) (pd_kq.kx (k915) f520)) (pd_kq.kx (k922) f916)) (pd_kq.kx (k929) f923)) (pd_kq.kx (k961) f930)) (pd_kq.kx (k968) f962)) f969 (fun j hj => Or.inr ⟨fun z => by first | (simp at z; done) | (simp at z; omega), rfl⟩)), fun t9 ht9 => by rw [hp] at ht9; cases ht9⟩ (by decide) (by decide) d_p15m16_257
                            · -- not taken: 252
                              refine lv_iconst (v := nI 1) hx hb d_p15m16_252 (by decide) ?_
                              refine lv_goto (tgt := 257) hx hb d_p15m16_253 (by decide) ?_
                              have hpt : gm_pt cs ((gm_name cs (sA i0) (eA i0)) + 3) (eA i0) = some (2, (gm_name cs (sA i0) (eA i0)) + 3 + 1) := by unfold gm_pt; rw [if_neg (by omega), if_neg (by omega), if_neg (by omega), if_pos (by rw [← e978]; omega)]
                              have hp : gm_pat cs (sA i0) (eA i0) = some (2, gm_name cs (sA i0) (eA i0), 2, (gm_name cs (sA i0) (eA i0)) + 3 + 1) := by unfold gm_pat; rw [hph]; simp only [hpt]
                              refine W.eq (g2 := F0 m 257 ls [.int (pd_b true)]) rfl ?_
                              exact pd_zret (v := true) X w ⟨by rw [hp]; rfl, pd_kx.tr (pd_kx.tr (pd_kx.tr (pd_kx.tr (pd_kx.tr (pd_kx.tr (pd_kx.tr (pd_kx.tr (pd_kq.kx (k2) hy0) (pd_kq.kx (k9) f3)) (pd_kq.kx (k512) f10)) (pd_kq.kx (k519) f513)) (pd_kq.kx (k915) f520)) (pd_kq.kx (k922) f916)) (pd_kq.kx (k929) f923)) (pd_kq.kx (k961) f930)) (pd_kq.kx (k968) f962), (nI 2), (nI (gm_name cs (sA i0) (eA i0))), (nI 2), (nI (((gm_name cs (sA i0) (eA i0)) + 3) + 1)), (pd_MO.of (fv2 := fv) (iv2 := pd_fu (pd_fu (pd_fu (pd_fu iv 37 (nI 2)) 38 (nI (gm_name cs (sA i0) (eA i0)))) 39 (nI 2)) 40 (nI (((gm_name cs (sA i0) (eA i0)) + 3) + 1))) (tl2 := tl) (ts := [20]) hMO (pd_kx.tr (pd_kx.tr (pd_kx.tr (pd_kx.tr (pd_kx.tr (pd_kx.tr (pd_kx.tr (pd_kx.tr (pd_kq.kx (k2) hy0) (pd_kq.kx (k9) f3)) (pd_kq.kx (k512) f10)) (pd_kq.kx (k519) f513)) (pd_kq.kx (k915) f520)) (pd_kq.kx (k922) f916)) (pd_kq.kx (k929) f923)) (pd_kq.kx (k961) f930)) (pd_kq.kx (k968) f962)) f969 (fun j hj => Or.inr ⟨fun z => by first | (simp at z; done) | (simp at z; omega), rfl⟩)), fun t9 ht9 => by rw [hp] at ht9; cases ht9; exact ⟨rfl, rfl, rfl, rfl⟩⟩ (by decide) (by decide) d_p15m16_257
                          · -- not taken: 217
                            refine lv_iconst (v := nI 1) hx hb d_p15m16_217 (by decide) ?_
                            refine lv_goto (tgt := 222) hx hb d_p15m16_218 (by decide) ?_
                            refine pd_put (ty := .int) X w f930 hz_y rfl 39 (by decide) mT_1178 rfl rfl (by decide +kernel) rfl rfl (Nat.le_of_ble_eq_true rfl) d_p15m16_222 (fun H locs w => ?_)
                            have w : pd_w G s H locs (pd_up h928 y (20, .inr (10, [.ref (ad 0), .ref (ad 1), .ref (ad 2), .int (iv 3), .int (iv 4), .int (iv 5), .ref (ad 6), .ref (ad 7), .ref (ad 8), .ref (ad 9), .ref (ad 10), .ref (ad 11), .int (iv 12), .ref (ad 13), .ref (ad 14), .ref (ad 15), .ref (ad 16), .ref (ad 17), .ref (ad 18), .ref (ad 19), .int (iv 20), .ref (ad 21), .ref (ad 22), .ref (ad 23), .ref (ad 24), .ref (ad 25), .ref (ad 26), .ref (ad 27), .ref (ad 28), .int (iv 29), .ref (ad 30), .ref (ad 31), .int (iv 32), .int (iv 33), .int (iv 34), .int (iv 35), .long tl, .int (nI 2), .int (nI (gm_name cs (sA i0) (eA i0))), .int (nI 1), .int (nI (eA i0)), .ref (ad 41), .ref (ad 42), .int (iv 43)]))) := w
                            obtain ⟨h980, u983⟩ : ∃ z, z = pd_up h928 y (20, .inr (10, [.ref (ad 0), .ref (ad 1), .ref (ad 2), .int (iv 3), .int (iv 4), .int (iv 5), .ref (ad 6), .ref (ad 7), .ref (ad 8), .ref (ad 9), .ref (ad 10), .ref (ad 11), .int (iv 12), .ref (ad 13), .ref (ad 14), .ref (ad 15), .ref (ad 16), .ref (ad 17), .ref (ad 18), .ref (ad 19), .int (iv 20), .ref (ad 21), .ref (ad 22), .ref (ad 23), .ref (ad 24), .ref (ad 25), .ref (ad 26), .ref (ad 27), .ref (ad 28), .int (iv 29), .ref (ad 30), .ref (ad 31), .int (iv 32), .int (iv 33), .int (iv 34), .int (iv 35), .long tl, .int (nI 2), .int (nI (gm_name cs (sA i0) (eA i0))), .int (nI 1), .int (nI (eA i0)), .ref (ad 41), .ref (ad 42), .int (iv 43)])) := ⟨_, rfl⟩
                            rw [← u983] at w
                            have k981 : pd_kq y h928 h980 := by rw [u983]; exact pd_up_kq
                            have f982 : h980 y = some (20, .inr (10, [.ref (ad 0), .ref (ad 1), .ref (ad 2), .int (iv 3), .int (iv 4), .int (iv 5), .ref (ad 6), .ref (ad 7), .ref (ad 8), .ref (ad 9), .ref (ad 10), .ref (ad 11), .int (iv 12), .ref (ad 13), .ref (ad 14), .ref (ad 15), .ref (ad 16), .ref (ad 17), .ref (ad 18), .ref (ad 19), .int (iv 20), .ref (ad 21), .ref (ad 22), .ref (ad 23), .ref (ad 24), .ref (ad 25), .ref (ad 26), .ref (ad 27), .ref (ad 28), .int (iv 29), .ref (ad 30), .ref (ad 31), .int (iv 32), .int (iv 33), .int (iv 34), .int (iv 35), .long tl, .int (nI 2), .int (nI (gm_name cs (sA i0) (eA i0))), .int (nI 1), .int (nI (eA i0)), .ref (ad 41), .ref (ad 42), .int (iv 43)])) := by rw [u983]; exact pd_up_s _ _ _
                            have f984 := k981 _ _ (pd_ne f932 f930 (by simp)) f932
                            have f985 := k981 _ _ (pd_ne f933 f930 (by simp)) f933
                            have f986 := k981 _ _ (pd_ne f934 f930 (by simp)) f934
                            refine lv_aload_n hx hb d_p15m16_225 rfl (lv_at hl 2 rfl) ?_
                            refine lv_iload_n hx hb d_p15m16_226 rfl (lv_at hl 0 rfl) ?_
                            refine lv_iconst (v := nI 1) hx hb d_p15m16_227 (by decide) ?_
                            refine pd_iadd hx hb d_p15m16_228 ?_
                            refine pd_put (ty := .int) X w f982 hz_y rfl 40 (by decide) mT_1179 rfl rfl (by decide +kernel) rfl rfl (Nat.le_of_ble_eq_true rfl) d_p15m16_229 (fun H locs w => ?_)
                            have w : pd_w G s H locs (pd_up h980 y (20, .inr (10, [.ref (ad 0), .ref (ad 1), .ref (ad 2), .int (iv 3), .int (iv 4), .int (iv 5), .ref (ad 6), .ref (ad 7), .ref (ad 8), .ref (ad 9), .ref (ad 10), .ref (ad 11), .int (iv 12), .ref (ad 13), .ref (ad 14), .ref (ad 15), .ref (ad 16), .ref (ad 17), .ref (ad 18), .ref (ad 19), .int (iv 20), .ref (ad 21), .ref (ad 22), .ref (ad 23), .ref (ad 24), .ref (ad 25), .ref (ad 26), .ref (ad 27), .ref (ad 28), .int (iv 29), .ref (ad 30), .ref (ad 31), .int (iv 32), .int (iv 33), .int (iv 34), .int (iv 35), .long tl, .int (nI 2), .int (nI (gm_name cs (sA i0) (eA i0))), .int (nI 1), .int (nI (((gm_name cs (sA i0) (eA i0)) + 3) + 1)), .ref (ad 41), .ref (ad 42), .int (iv 43)]))) := w
                            obtain ⟨h987, u990⟩ : ∃ z, z = pd_up h980 y (20, .inr (10, [.ref (ad 0), .ref (ad 1), .ref (ad 2), .int (iv 3), .int (iv 4), .int (iv 5), .ref (ad 6), .ref (ad 7), .ref (ad 8), .ref (ad 9), .ref (ad 10), .ref (ad 11), .int (iv 12), .ref (ad 13), .ref (ad 14), .ref (ad 15), .ref (ad 16), .ref (ad 17), .ref (ad 18), .ref (ad 19), .int (iv 20), .ref (ad 21), .ref (ad 22), .ref (ad 23), .ref (ad 24), .ref (ad 25), .ref (ad 26), .ref (ad 27), .ref (ad 28), .int (iv 29), .ref (ad 30), .ref (ad 31), .int (iv 32), .int (iv 33), .int (iv 34), .int (iv 35), .long tl, .int (nI 2), .int (nI (gm_name cs (sA i0) (eA i0))), .int (nI 1), .int (nI (((gm_name cs (sA i0) (eA i0)) + 3) + 1)), .ref (ad 41), .ref (ad 42), .int (iv 43)])) := ⟨_, rfl⟩
                            rw [← u990] at w
                            have k988 : pd_kq y h980 h987 := by rw [u990]; exact pd_up_kq
                            have f989 : h987 y = some (20, .inr (10, [.ref (ad 0), .ref (ad 1), .ref (ad 2), .int (iv 3), .int (iv 4), .int (iv 5), .ref (ad 6), .ref (ad 7), .ref (ad 8), .ref (ad 9), .ref (ad 10), .ref (ad 11), .int (iv 12), .ref (ad 13), .ref (ad 14), .ref (ad 15), .ref (ad 16), .ref (ad 17), .ref (ad 18), .ref (ad 19), .int (iv 20), .ref (ad 21), .ref (ad 22), .ref (ad 23), .ref (ad 24), .ref (ad 25), .ref (ad 26), .ref (ad 27), .ref (ad 28), .int (iv 29), .ref (ad 30), .ref (ad 31), .int (iv 32), .int (iv 33), .int (iv 34), .int (iv 35), .long tl, .int (nI 2), .int (nI (gm_name cs (sA i0) (eA i0))), .int (nI 1), .int (nI (((gm_name cs (sA i0) (eA i0)) + 3) + 1)), .ref (ad 41), .ref (ad 42), .int (iv 43)])) := by rw [u990]; exact pd_up_s _ _ _
                            have f991 := k988 _ _ (pd_ne f984 f982 (by simp)) f984
                            have f992 := k988 _ _ (pd_ne f985 f982 (by simp)) f985
                            have f993 := k988 _ _ (pd_ne f986 f982 (by simp)) f986
                            refine lv_aload_n hx hb d_p15m16_232 rfl (lv_at hl 2 rfl) ?_
                            refine pd_get X w f989 rfl 39 (by decide) mT_1178 rfl rfl d_p15m16_233 ?_
                            refine lv_iconst (v := nI 1) hx hb d_p15m16_236 (by decide) ?_
                            refine pd_jeq (tgt := 252) hx hb d_p15m16_237 (by decide) (by decide) (by decide) (fun _ => ?_) (fun q => absurd q (by decide))
                            refine lv_iconst (v := nI 1) hx hb d_p15m16_252 (by decide) ?_
                            refine lv_goto (tgt := 257) hx hb d_p15m16_253 (by decide) ?_
                            have hpt : gm_pt cs ((gm_name cs (sA i0) (eA i0)) + 3) (eA i0) = some (1, (gm_name cs (sA i0) (eA i0)) + 3 + 1) := by unfold gm_pt; rw [if_neg (by omega), if_neg (by omega), if_pos (by omega)]
                            have hp : gm_pat cs (sA i0) (eA i0) = some (2, gm_name cs (sA i0) (eA i0), 1, (gm_name cs (sA i0) (eA i0)) + 3 + 1) := by unfold gm_pat; rw [hph]; simp only [hpt]
                            refine W.eq (g2 := F0 m 257 ls [.int (pd_b true)]) rfl ?_
                            exact pd_zret (v := true) X w ⟨by rw [hp]; rfl, pd_kx.tr (pd_kx.tr (pd_kx.tr (pd_kx.tr (pd_kx.tr (pd_kx.tr (pd_kx.tr (pd_kx.tr (pd_kq.kx (k2) hy0) (pd_kq.kx (k9) f3)) (pd_kq.kx (k512) f10)) (pd_kq.kx (k519) f513)) (pd_kq.kx (k915) f520)) (pd_kq.kx (k922) f916)) (pd_kq.kx (k929) f923)) (pd_kq.kx (k981) f930)) (pd_kq.kx (k988) f982), (nI 2), (nI (gm_name cs (sA i0) (eA i0))), (nI 1), (nI (((gm_name cs (sA i0) (eA i0)) + 3) + 1)), (pd_MO.of (fv2 := fv) (iv2 := pd_fu (pd_fu (pd_fu (pd_fu iv 37 (nI 2)) 38 (nI (gm_name cs (sA i0) (eA i0)))) 39 (nI 1)) 40 (nI (((gm_name cs (sA i0) (eA i0)) + 3) + 1))) (tl2 := tl) (ts := [20]) hMO (pd_kx.tr (pd_kx.tr (pd_kx.tr (pd_kx.tr (pd_kx.tr (pd_kx.tr (pd_kx.tr (pd_kx.tr (pd_kq.kx (k2) hy0) (pd_kq.kx (k9) f3)) (pd_kq.kx (k512) f10)) (pd_kq.kx (k519) f513)) (pd_kq.kx (k915) f520)) (pd_kq.kx (k922) f916)) (pd_kq.kx (k929) f923)) (pd_kq.kx (k981) f930)) (pd_kq.kx (k988) f982)) f989 (fun j hj => Or.inr ⟨fun z => by first | (simp at z; done) | (simp at z; omega), rfl⟩)), fun t9 ht9 => by rw [hp] at ht9; cases ht9; exact ⟨rfl, rfl, rfl, rfl⟩⟩ (by decide) (by decide) d_p15m16_257
                      · -- not taken: 194
                        refine lv_iconst (v := nI 0) hx hb d_p15m16_194 (by decide) ?_
                        have hpt : gm_pt cs ((gm_name cs (sA i0) (eA i0)) + 3) (eA i0) = none := by unfold gm_pt; rw [if_neg (by omega), if_pos (by omega)]
                        have hp : gm_pat cs (sA i0) (eA i0) = none := by unfold gm_pat; rw [hph]; simp only [hpt]
                        refine W.eq (g2 := F0 m 195 ls [.int (pd_b false)]) rfl ?_
                        exact pd_zret (v := false) X w ⟨by rw [hp]; rfl, pd_kx.tr (pd_kx.tr (pd_kx.tr (pd_kx.tr (pd_kx.tr (pd_kx.tr (pd_kq.kx (k2) hy0) (pd_kq.kx (k9) f3)) (pd_kq.kx (k512) f10)) (pd_kq.kx (k519) f513)) (pd_kq.kx (k915) f520)) (pd_kq.kx (k922) f916)) (pd_kq.kx (k929) f923), (nI 2), (nI (gm_name cs (sA i0) (eA i0))), (nI 0), (nI (eA i0)), (pd_MO.of (fv2 := fv) (iv2 := pd_fu (pd_fu (pd_fu (pd_fu iv 37 (nI 2)) 38 (nI (gm_name cs (sA i0) (eA i0)))) 39 (nI 0)) 40 (nI (eA i0))) (tl2 := tl) (ts := [20]) hMO (pd_kx.tr (pd_kx.tr (pd_kx.tr (pd_kx.tr (pd_kx.tr (pd_kx.tr (pd_kq.kx (k2) hy0) (pd_kq.kx (k9) f3)) (pd_kq.kx (k512) f10)) (pd_kq.kx (k519) f513)) (pd_kq.kx (k915) f520)) (pd_kq.kx (k922) f916)) (pd_kq.kx (k929) f923)) f930 (fun j hj => Or.inr ⟨fun z => by first | (simp at z; done) | (simp at z; omega), rfl⟩)), fun t9 ht9 => by rw [hp] at ht9; cases ht9⟩ (by decide) (by decide) d_p15m16_195
                  · -- not taken: 174
                    refine lv_iconst (v := nI 1) hx hb d_p15m16_174 (by decide) ?_
                    have hpt : gm_pt cs ((gm_name cs (sA i0) (eA i0)) + 3) (eA i0) = some (0, eA i0) := by unfold gm_pt; rw [if_pos (by omega)]
                    have hp : gm_pat cs (sA i0) (eA i0) = some (2, gm_name cs (sA i0) (eA i0), 0, eA i0) := by unfold gm_pat; rw [hph]; simp only [hpt]
                    refine W.eq (g2 := F0 m 175 ls [.int (pd_b true)]) rfl ?_
                    exact pd_zret (v := true) X w ⟨by rw [hp]; rfl, pd_kx.tr (pd_kx.tr (pd_kx.tr (pd_kx.tr (pd_kx.tr (pd_kx.tr (pd_kq.kx (k2) hy0) (pd_kq.kx (k9) f3)) (pd_kq.kx (k512) f10)) (pd_kq.kx (k519) f513)) (pd_kq.kx (k915) f520)) (pd_kq.kx (k922) f916)) (pd_kq.kx (k929) f923), (nI 2), (nI (gm_name cs (sA i0) (eA i0))), (nI 0), (nI (eA i0)), (pd_MO.of (fv2 := fv) (iv2 := pd_fu (pd_fu (pd_fu (pd_fu iv 37 (nI 2)) 38 (nI (gm_name cs (sA i0) (eA i0)))) 39 (nI 0)) 40 (nI (eA i0))) (tl2 := tl) (ts := [20]) hMO (pd_kx.tr (pd_kx.tr (pd_kx.tr (pd_kx.tr (pd_kx.tr (pd_kx.tr (pd_kq.kx (k2) hy0) (pd_kq.kx (k9) f3)) (pd_kq.kx (k512) f10)) (pd_kq.kx (k519) f513)) (pd_kq.kx (k915) f520)) (pd_kq.kx (k922) f916)) (pd_kq.kx (k929) f923)) f930 (fun j hj => Or.inr ⟨fun z => by first | (simp at z; done) | (simp at z; omega), rfl⟩)), fun t9 ht9 => by rw [hp] at ht9; cases ht9; exact ⟨rfl, rfl, rfl, rfl⟩⟩ (by decide) (by decide) d_p15m16_175
      · -- not taken: 78
        refine lv_iconst (v := nI 0) hx hb d_p15m16_78 (by decide) ?_
        have hp : gm_pat cs (sA i0) (eA i0) = none := by unfold gm_pat; rw [show gm_ph cs (sA i0) (eA i0) = none by unfold gm_ph; rw [if_neg (by omega), if_pos (by omega)]]
        refine W.eq (g2 := F0 m 79 ls [.int (pd_b false)]) rfl ?_
        exact pd_zret (v := false) X w ⟨by rw [hp]; rfl, pd_kx.tr (pd_kq.kx (k2) hy0) (pd_kq.kx (k9) f3), (nI 3), (nI (sA i0)), (iv 39), (iv 40), (pd_MO.of (fv2 := fv) (iv2 := pd_fu (pd_fu iv 37 (nI 3)) 38 (nI (sA i0))) (tl2 := tl) (ts := [20]) hMO (pd_kx.tr (pd_kq.kx (k2) hy0) (pd_kq.kx (k9) f3)) f10 (fun j hj => Or.inr ⟨fun z => by first | (simp at z; done) | (simp at z; omega), rfl⟩)), fun t9 ht9 => by rw [hp] at ht9; cases ht9⟩ (by decide) (by decide) d_p15m16_79
    · -- not taken: 42
      refine lv_aload_n hx hb d_p15m16_42 rfl (lv_at hl 2 rfl) ?_
      refine pd_get X w f10 rfl 0 (by decide) mT_1139 rfl rfl d_p15m16_43 ?_
      refine lv_iload_n hx hb d_p15m16_46 rfl (lv_at hl 1 rfl) ?_
      refine lv_iconst (v := nI 1) hx hb d_p15m16_47 (by decide) ?_
      refine pd_iadd hx hb d_p15m16_48 ?_
      refine pd_iald X w f12 (by omega) (by omega) d_p15m16_49 ?_
      refine pd_top (v' := .int (nI (cs.getD ((sA i0) + 1) 0))) (congrArg Value.int (hln _ (by omega))) ?_
      have := tx_lt hlc ((sA i0) + 1)
      refine lv_bipush (v := nI 42) hx hb d_p15m16_50 (by decide) ?_
      refine pd_jne (tgt := 61) hx hb d_p15m16_52 (by decide) (by omega) (by omega) (fun q995 => ?_) (fun q995 => ?_)
      · -- taken: 61
        refine lv_aload_n hx hb d_p15m16_61 rfl (lv_at hl 2 rfl) ?_
        refine lv_iload_n hx hb d_p15m16_62 rfl (lv_at hl 1 rfl) ?_
        refine lv_iload_n hx hb d_p15m16_63 rfl (lv_at hl 0 rfl) ?_
        refine pd_cV (a := y) (As := [.int (nI (sA i0)), .int (nI (eA i0))]) (rest := []) X w f10 rfl (c_PolicyDeskModel_behindName l G h8 (ad := ad) (fv := fv) (iv := pd_fu (pd_fu iv 37 (nI 3)) 38 (nI (sA i0))) (tl := tl) (pd_MO.of (fv2 := fv) (iv2 := pd_fu (pd_fu iv 37 (nI 3)) 38 (nI (sA i0))) (tl2 := tl) (ts := [20]) hMO (pd_kx.tr (pd_kq.kx (k2) hy0) (pd_kq.kx (k9) f3)) f10 (fun j hj => Or.inr ⟨fun z => by first | (simp at z; done) | (simp at z; omega), rfl⟩)) hL (by omega) (by omega)) ok_PolicyDeskModel_behindName ⟨mT_1311, sT_18⟩ mT_1309 ⟨by decide, by decide⟩ rfl hl.1 rfl (Nat.le_of_ble_eq_true rfl) d_p15m16_64 ⟨by decide, by decide⟩ (fun r996 h997 H locs hp998 w => ?_)
        refine W.widen (k := 0) (n := 0) (by decide) (by decide) ?_
        obtain ⟨e999, rfl⟩ := hp998
        subst e999
        have hnl := gm_name_le (cs := cs) (Nat.le_of_lt hwl)
        refine lv_istore_n (lv' := [(2, .int (nI (gm_name cs (sA i0) (eA i0)))), (3, .int (nI (eA i0))), (0, .ref y), (1, .int (nI i0))]) hx hb d_p15m16_67 rfl hl (by decide) rfl (fun ls hl => ?_)
        refine lv_iload_n hx hb d_p15m16_68 rfl (lv_at hl 0 rfl) ?_
        refine lv_aload_n hx hb d_p15m16_69 rfl (lv_at hl 2 rfl) ?_
        refine pd_get X w f10 rfl 1 (by decide) mT_1140 rfl rfl d_p15m16_70 ?_
        refine lv_iload_n hx hb d_p15m16_73 rfl (lv_at hl 3 rfl) ?_
        refine pd_iald X w f13 (by omega) (by omega) d_p15m16_74 ?_
        refine pd_top (v' := .int (nI (sA i0))) (congrArg Value.int hws) ?_
        refine pd_jne (tgt := 80) hx hb d_p15m16_75 (by decide) (by omega) (by omega) (fun q1000 => ?_) (fun q1000 => ?_)
        · -- taken: 80
          refine lv_aload_n hx hb d_p15m16_80 rfl (lv_at hl 2 rfl) ?_
          refine lv_iload_n hx hb d_p15m16_81 rfl (lv_at hl 0 rfl) ?_
          refine pd_put (ty := .int) X w f10 hz_y rfl 38 (by decide) mT_1177 rfl rfl (by decide +kernel) rfl rfl (Nat.le_of_ble_eq_true rfl) d_p15m16_82 (fun H locs w => ?_)
          have w : pd_w G s H locs (pd_up h8 y (20, .inr (10, [.ref (ad 0), .ref (ad 1), .ref (ad 2), .int (iv 3), .int (iv 4), .int (iv 5), .ref (ad 6), .ref (ad 7), .ref (ad 8), .ref (ad 9), .ref (ad 10), .ref (ad 11), .int (iv 12), .ref (ad 13), .ref (ad 14), .ref (ad 15), .ref (ad 16), .ref (ad 17), .ref (ad 18), .ref (ad 19), .int (iv 20), .ref (ad 21), .ref (ad 22), .ref (ad 23), .ref (ad 24), .ref (ad 25), .ref (ad 26), .ref (ad 27), .ref (ad 28), .int (iv 29), .ref (ad 30), .ref (ad 31), .int (iv 32), .int (iv 33), .int (iv 34), .int (iv 35), .long tl, .int (nI 3), .int (nI (gm_name cs (sA i0) (eA i0))), .int (iv 39), .int (iv 40), .ref (ad 41), .ref (ad 42), .int (iv 43)]))) := w
          obtain ⟨h1001, u1004⟩ : ∃ z, z = pd_up h8 y (20, .inr (10, [.ref (ad 0), .ref (ad 1), .ref (ad 2), .int (iv 3), .int (iv 4), .int (iv 5), .ref (ad 6), .ref (ad 7), .ref (ad 8), .ref (ad 9), .ref (ad 10), .ref (ad 11), .int (iv 12), .ref (ad 13), .ref (ad 14), .ref (ad 15), .ref (ad 16), .ref (ad 17), .ref (ad 18), .ref (ad 19), .int (iv 20), .ref (ad 21), .ref (ad 22), .ref (ad 23), .ref (ad 24), .ref (ad 25), .ref (ad 26), .ref (ad 27), .ref (ad 28), .int (iv 29), .ref (ad 30), .ref (ad 31), .int (iv 32), .int (iv 33), .int (iv 34), .int (iv 35), .long tl, .int (nI 3), .int (nI (gm_name cs (sA i0) (eA i0))), .int (iv 39), .int (iv 40), .ref (ad 41), .ref (ad 42), .int (iv 43)])) := ⟨_, rfl⟩
          rw [← u1004] at w
          have k1002 : pd_kq y h8 h1001 := by rw [u1004]; exact pd_up_kq
          have f1003 : h1001 y = some (20, .inr (10, [.ref (ad 0), .ref (ad 1), .ref (ad 2), .int (iv 3), .int (iv 4), .int (iv 5), .ref (ad 6), .ref (ad 7), .ref (ad 8), .ref (ad 9), .ref (ad 10), .ref (ad 11), .int (iv 12), .ref (ad 13), .ref (ad 14), .ref (ad 15), .ref (ad 16), .ref (ad 17), .ref (ad 18), .ref (ad 19), .int (iv 20), .ref (ad 21), .ref (ad 22), .ref (ad 23), .ref (ad 24), .ref (ad 25), .ref (ad 26), .ref (ad 27), .ref (ad 28), .int (iv 29), .ref (ad 30), .ref (ad 31), .int (iv 32), .int (iv 33), .int (iv 34), .int (iv 35), .long tl, .int (nI 3), .int (nI (gm_name cs (sA i0) (eA i0))), .int (iv 39), .int (iv 40), .ref (ad 41), .ref (ad 42), .int (iv 43)])) := by rw [u1004]; exact pd_up_s _ _ _
          have f1005 := k1002 _ _ (pd_ne f12 f10 (by simp)) f12
          have f1006 := k1002 _ _ (pd_ne f13 f10 (by simp)) f13
          have f1007 := k1002 _ _ (pd_ne f14 f10 (by simp)) f14
          refine lv_aload_n hx hb d_p15m16_85 rfl (lv_at hl 2 rfl) ?_
          refine lv_iconst (v := nI 0) hx hb d_p15m16_86 (by decide) ?_
          refine pd_put (ty := .int) X w f1003 hz_y rfl 37 (by decide) mT_1176 rfl rfl (by decide +kernel) rfl rfl (Nat.le_of_ble_eq_true rfl) d_p15m16_87 (fun H locs w => ?_)
          have w : pd_w G s H locs (pd_up h1001 y (20, .inr (10, [.ref (ad 0), .ref (ad 1), .ref (ad 2), .int (iv 3), .int (iv 4), .int (iv 5), .ref (ad 6), .ref (ad 7), .ref (ad 8), .ref (ad 9), .ref (ad 10), .ref (ad 11), .int (iv 12), .ref (ad 13), .ref (ad 14), .ref (ad 15), .ref (ad 16), .ref (ad 17), .ref (ad 18), .ref (ad 19), .int (iv 20), .ref (ad 21), .ref (ad 22), .ref (ad 23), .ref (ad 24), .ref (ad 25), .ref (ad 26), .ref (ad 27), .ref (ad 28), .int (iv 29), .ref (ad 30), .ref (ad 31), .int (iv 32), .int (iv 33), .int (iv 34), .int (iv 35), .long tl, .int (nI 0), .int (nI (gm_name cs (sA i0) (eA i0))), .int (iv 39), .int (iv 40), .ref (ad 41), .ref (ad 42), .int (iv 43)]))) := w
          obtain ⟨h1008, u1011⟩ : ∃ z, z = pd_up h1001 y (20, .inr (10, [.ref (ad 0), .ref (ad 1), .ref (ad 2), .int (iv 3), .int (iv 4), .int (iv 5), .ref (ad 6), .ref (ad 7), .ref (ad 8), .ref (ad 9), .ref (ad 10), .ref (ad 11), .int (iv 12), .ref (ad 13), .ref (ad 14), .ref (ad 15), .ref (ad 16), .ref (ad 17), .ref (ad 18), .ref (ad 19), .int (iv 20), .ref (ad 21), .ref (ad 22), .ref (ad 23), .ref (ad 24), .ref (ad 25), .ref (ad 26), .ref (ad 27), .ref (ad 28), .int (iv 29), .ref (ad 30), .ref (ad 31), .int (iv 32), .int (iv 33), .int (iv 34), .int (iv 35), .long tl, .int (nI 0), .int (nI (gm_name cs (sA i0) (eA i0))), .int (iv 39), .int (iv 40), .ref (ad 41), .ref (ad 42), .int (iv 43)])) := ⟨_, rfl⟩
          rw [← u1011] at w
          have k1009 : pd_kq y h1001 h1008 := by rw [u1011]; exact pd_up_kq
          have f1010 : h1008 y = some (20, .inr (10, [.ref (ad 0), .ref (ad 1), .ref (ad 2), .int (iv 3), .int (iv 4), .int (iv 5), .ref (ad 6), .ref (ad 7), .ref (ad 8), .ref (ad 9), .ref (ad 10), .ref (ad 11), .int (iv 12), .ref (ad 13), .ref (ad 14), .ref (ad 15), .ref (ad 16), .ref (ad 17), .ref (ad 18), .ref (ad 19), .int (iv 20), .ref (ad 21), .ref (ad 22), .ref (ad 23), .ref (ad 24), .ref (ad 25), .ref (ad 26), .ref (ad 27), .ref (ad 28), .int (iv 29), .ref (ad 30), .ref (ad 31), .int (iv 32), .int (iv 33), .int (iv 34), .int (iv 35), .long tl, .int (nI 0), .int (nI (gm_name cs (sA i0) (eA i0))), .int (iv 39), .int (iv 40), .ref (ad 41), .ref (ad 42), .int (iv 43)])) := by rw [u1011]; exact pd_up_s _ _ _
          have f1012 := k1009 _ _ (pd_ne f1005 f1003 (by simp)) f1005
          have f1013 := k1009 _ _ (pd_ne f1006 f1003 (by simp)) f1006
          have f1014 := k1009 _ _ (pd_ne f1007 f1003 (by simp)) f1007
          refine lv_iload_n hx hb d_p15m16_90 rfl (lv_at hl 0 rfl) ?_
          refine lv_iconst (v := nI 1) hx hb d_p15m16_91 (by decide) ?_
          refine pd_iadd hx hb d_p15m16_92 ?_
          refine lv_iload_n hx hb d_p15m16_93 rfl (lv_at hl 1 rfl) ?_
          refine pd_jge (tgt := 159) hx hb d_p15m16_94 (by decide) (by omega) (by omega) (fun q1015 => ?_) (fun q1015 => ?_)
          · -- taken: 159
            have hph : gm_ph cs (sA i0) (eA i0) = some (0, gm_name cs (sA i0) (eA i0), gm_name cs (sA i0) (eA i0)) := by unfold gm_ph; rw [if_neg (by omega), if_neg (by omega), if_neg (by omega)]
            refine lv_aload_n hx hb d_p15m16_159 rfl (lv_at hl 2 rfl) ?_
            refine lv_iconst (v := nI 0) hx hb d_p15m16_160 (by decide) ?_
            refine pd_put (ty := .int) X w f1010 hz_y rfl 39 (by decide) mT_1178 rfl rfl (by decide +kernel) rfl rfl (Nat.le_of_ble_eq_true rfl) d_p15m16_161 (fun H locs w => ?_)
            have w : pd_w G s H locs (pd_up h1008 y (20, .inr (10, [.ref (ad 0), .ref (ad 1), .ref (ad 2), .int (iv 3), .int (iv 4), .int (iv 5), .ref (ad 6), .ref (ad 7), .ref (ad 8), .ref (ad 9), .ref (ad 10), .ref (ad 11), .int (iv 12), .ref (ad 13), .ref (ad 14), .ref (ad 15), .ref (ad 16), .ref (ad 17), .ref (ad 18), .ref (ad 19), .int (iv 20), .ref (ad 21), .ref (ad 22), .ref (ad 23), .ref (ad 24), .ref (ad 25), .ref (ad 26), .ref (ad 27), .ref (ad 28), .int (iv 29), .ref (ad 30), .ref (ad 31), .int (iv 32), .int (iv 33), .int (iv 34), .int (iv 35), .long tl, .int (nI 0), .int (nI (gm_name cs (sA i0) (eA i0))), .int (nI 0), .int (iv 40), .ref (ad 41), .ref (ad 42), .int (iv 43)]))) := w
            obtain ⟨h1016, u1019⟩ : ∃ z, z = pd_up h1008 y (20, .inr (10, [.ref (ad 0), .ref (ad 1), .ref (ad 2), .int (iv 3), .int (iv 4), .int (iv 5), .ref (ad 6), .ref (ad 7), .ref (ad 8), .ref (ad 9), .ref (ad 10), .ref (ad 11), .int (iv 12), .ref (ad 13), .ref (ad 14), .ref (ad 15), .ref (ad 16), .ref (ad 17), .ref (ad 18), .ref (ad 19), .int (iv 20), .ref (ad 21), .ref (ad 22), .ref (ad 23), .ref (ad 24), .ref (ad 25), .ref (ad 26), .ref (ad 27), .ref (ad 28), .int (iv 29), .ref (ad 30), .ref (ad 31), .int (iv 32), .int (iv 33), .int (iv 34), .int (iv 35), .long tl, .int (nI 0), .int (nI (gm_name cs (sA i0) (eA i0))), .int (nI 0), .int (iv 40), .ref (ad 41), .ref (ad 42), .int (iv 43)])) := ⟨_, rfl⟩
            rw [← u1019] at w
            have k1017 : pd_kq y h1008 h1016 := by rw [u1019]; exact pd_up_kq
            have f1018 : h1016 y = some (20, .inr (10, [.ref (ad 0), .ref (ad 1), .ref (ad 2), .int (iv 3), .int (iv 4), .int (iv 5), .ref (ad 6), .ref (ad 7), .ref (ad 8), .ref (ad 9), .ref (ad 10), .ref (ad 11), .int (iv 12), .ref (ad 13), .ref (ad 14), .ref (ad 15), .ref (ad 16), .ref (ad 17), .ref (ad 18), .ref (ad 19), .int (iv 20), .ref (ad 21), .ref (ad 22), .ref (ad 23), .ref (ad 24), .ref (ad 25), .ref (ad 26), .ref (ad 27), .ref (ad 28), .int (iv 29), .ref (ad 30), .ref (ad 31), .int (iv 32), .int (iv 33), .int (iv 34), .int (iv 35), .long tl, .int (nI 0), .int (nI (gm_name cs (sA i0) (eA i0))), .int (nI 0), .int (iv 40), .ref (ad 41), .ref (ad 42), .int (iv 43)])) := by rw [u1019]; exact pd_up_s _ _ _
            have f1020 := k1017 _ _ (pd_ne f1012 f1010 (by simp)) f1012
            have f1021 := k1017 _ _ (pd_ne f1013 f1010 (by simp)) f1013
            have f1022 := k1017 _ _ (pd_ne f1014 f1010 (by simp)) f1014
            refine lv_aload_n hx hb d_p15m16_164 rfl (lv_at hl 2 rfl) ?_
            refine lv_iload_n hx hb d_p15m16_165 rfl (lv_at hl 1 rfl) ?_
            refine pd_put (ty := .int) X w f1018 hz_y rfl 40 (by decide) mT_1179 rfl rfl (by decide +kernel) rfl rfl (Nat.le_of_ble_eq_true rfl) d_p15m16_166 (fun H locs w => ?_)
            have w : pd_w G s H locs (pd_up h1016 y (20, .inr (10, [.ref (ad 0), .ref (ad 1), .ref (ad 2), .int (iv 3), .int (iv 4), .int (iv 5), .ref (ad 6), .ref (ad 7), .ref (ad 8), .ref (ad 9), .ref (ad 10), .ref (ad 11), .int (iv 12), .ref (ad 13), .ref (ad 14), .ref (ad 15), .ref (ad 16), .ref (ad 17), .ref (ad 18), .ref (ad 19), .int (iv 20), .ref (ad 21), .ref (ad 22), .ref (ad 23), .ref (ad 24), .ref (ad 25), .ref (ad 26), .ref (ad 27), .ref (ad 28), .int (iv 29), .ref (ad 30), .ref (ad 31), .int (iv 32), .int (iv 33), .int (iv 34), .int (iv 35), .long tl, .int (nI 0), .int (nI (gm_name cs (sA i0) (eA i0))), .int (nI 0), .int (nI (eA i0)), .ref (ad 41), .ref (ad 42), .int (iv 43)]))) := w
            obtain ⟨h1023, u1026⟩ : ∃ z, z = pd_up h1016 y (20, .inr (10, [.ref (ad 0), .ref (ad 1), .ref (ad 2), .int (iv 3), .int (iv 4), .int (iv 5), .ref (ad 6), .ref (ad 7), .ref (ad 8), .ref (ad 9), .ref (ad 10), .ref (ad 11), .int (iv 12), .ref (ad 13), .ref (ad 14), .ref (ad 15), .ref (ad 16), .ref (ad 17), .ref (ad 18), .ref (ad 19), .int (iv 20), .ref (ad 21), .ref (ad 22), .ref (ad 23), .ref (ad 24), .ref (ad 25), .ref (ad 26), .ref (ad 27), .ref (ad 28), .int (iv 29), .ref (ad 30), .ref (ad 31), .int (iv 32), .int (iv 33), .int (iv 34), .int (iv 35), .long tl, .int (nI 0), .int (nI (gm_name cs (sA i0) (eA i0))), .int (nI 0), .int (nI (eA i0)), .ref (ad 41), .ref (ad 42), .int (iv 43)])) := ⟨_, rfl⟩
            rw [← u1026] at w
            have k1024 : pd_kq y h1016 h1023 := by rw [u1026]; exact pd_up_kq
            have f1025 : h1023 y = some (20, .inr (10, [.ref (ad 0), .ref (ad 1), .ref (ad 2), .int (iv 3), .int (iv 4), .int (iv 5), .ref (ad 6), .ref (ad 7), .ref (ad 8), .ref (ad 9), .ref (ad 10), .ref (ad 11), .int (iv 12), .ref (ad 13), .ref (ad 14), .ref (ad 15), .ref (ad 16), .ref (ad 17), .ref (ad 18), .ref (ad 19), .int (iv 20), .ref (ad 21), .ref (ad 22), .ref (ad 23), .ref (ad 24), .ref (ad 25), .ref (ad 26), .ref (ad 27), .ref (ad 28), .int (iv 29), .ref (ad 30), .ref (ad 31), .int (iv 32), .int (iv 33), .int (iv 34), .int (iv 35), .long tl, .int (nI 0), .int (nI (gm_name cs (sA i0) (eA i0))), .int (nI 0), .int (nI (eA i0)), .ref (ad 41), .ref (ad 42), .int (iv 43)])) := by rw [u1026]; exact pd_up_s _ _ _
            have f1027 := k1024 _ _ (pd_ne f1020 f1018 (by simp)) f1020
            have f1028 := k1024 _ _ (pd_ne f1021 f1018 (by simp)) f1021
            have f1029 := k1024 _ _ (pd_ne f1022 f1018 (by simp)) f1022
            refine lv_iload_n hx hb d_p15m16_169 rfl (lv_at hl 0 rfl) ?_
            refine lv_iload_n hx hb d_p15m16_170 rfl (lv_at hl 1 rfl) ?_
            refine pd_jne (tgt := 176) hx hb d_p15m16_171 (by decide) (by omega) (by omega) (fun q1030 => ?_) (fun q1030 => ?_)
            · -- taken: 176
              refine lv_aload_n hx hb d_p15m16_176 rfl (lv_at hl 2 rfl) ?_
              refine pd_get X w f1025 rfl 0 (by decide) mT_1139 rfl rfl d_p15m16_177 ?_
              refine lv_iload_n hx hb d_p15m16_180 rfl (lv_at hl 0 rfl) ?_
              refine pd_iald X w f1027 (by omega) (by omega) d_p15m16_181 ?_
              refine pd_top (v' := .int (nI (cs.getD (gm_name cs (sA i0) (eA i0)) 0))) (congrArg Value.int (hln _ (by omega))) ?_
              have := tx_lt hlc (gm_name cs (sA i0) (eA i0))
              refine lv_bipush (v := nI 46) hx hb d_p15m16_182 (by decide) ?_
              refine pd_jne (tgt := 194) hx hb d_p15m16_184 (by decide) (by omega) (by omega) (fun q1031 => ?_) (fun q1031 => ?_)
              · -- taken: 194
                refine lv_iconst (v := nI 0) hx hb d_p15m16_194 (by decide) ?_
                have hpt : gm_pt cs (gm_name cs (sA i0) (eA i0)) (eA i0) = none := by unfold gm_pt; rw [if_neg (by omega), if_pos (by omega)]
                have hp : gm_pat cs (sA i0) (eA i0) = none := by unfold gm_pat; rw [hph]; simp only [hpt]
                refine W.eq (g2 := F0 m 195 ls [.int (pd_b false)]) rfl ?_
                exact pd_zret (v := false) X w ⟨by rw [hp]; rfl, pd_kx.tr (pd_kx.tr (pd_kx.tr (pd_kx.tr (pd_kx.tr (pd_kq.kx (k2) hy0) (pd_kq.kx (k9) f3)) (pd_kq.kx (k1002) f10)) (pd_kq.kx (k1009) f1003)) (pd_kq.kx (k1017) f1010)) (pd_kq.kx (k1024) f1018), (nI 0), (nI (gm_name cs (sA i0) (eA i0))), (nI 0), (nI (eA i0)), (pd_MO.of (fv2 := fv) (iv2 := pd_fu (pd_fu (pd_fu (pd_fu iv 37 (nI 0)) 38 (nI (gm_name cs (sA i0) (eA i0)))) 39 (nI 0)) 40 (nI (eA i0))) (tl2 := tl) (ts := [20]) hMO (pd_kx.tr (pd_kx.tr (pd_kx.tr (pd_kx.tr (pd_kx.tr (pd_kq.kx (k2) hy0) (pd_kq.kx (k9) f3)) (pd_kq.kx (k1002) f10)) (pd_kq.kx (k1009) f1003)) (pd_kq.kx (k1017) f1010)) (pd_kq.kx (k1024) f1018)) f1025 (fun j hj => Or.inr ⟨fun z => by first | (simp at z; done) | (simp at z; omega), rfl⟩)), fun t9 ht9 => by rw [hp] at ht9; cases ht9⟩ (by decide) (by decide) d_p15m16_195
              · -- not taken: 187
                refine lv_iload_n hx hb d_p15m16_187 rfl (lv_at hl 0 rfl) ?_
                refine lv_iconst (v := nI 1) hx hb d_p15m16_188 (by decide) ?_
                refine pd_iadd hx hb d_p15m16_189 ?_
                refine lv_iload_n hx hb d_p15m16_190 rfl (lv_at hl 1 rfl) ?_
                refine pd_jne (tgt := 196) hx hb d_p15m16_191 (by decide) (by omega) (by omega) (fun q1032 => ?_) (fun q1032 => ?_)
                · -- taken: 196
                  refine lv_aload_n hx hb d_p15m16_196 rfl (lv_at hl 2 rfl) ?_
                  refine lv_aload_n hx hb d_p15m16_197 rfl (lv_at hl 2 rfl) ?_
                  refine pd_get X w f1025 rfl 0 (by decide) mT_1139 rfl rfl d_p15m16_198 ?_
                  refine lv_iload_n hx hb d_p15m16_201 rfl (lv_at hl 0 rfl) ?_
                  refine lv_iconst (v := nI 1) hx hb d_p15m16_202 (by decide) ?_
                  refine pd_iadd hx hb d_p15m16_203 ?_
                  refine pd_iald X w f1027 (by omega) (by omega) d_p15m16_204 ?_
                  refine pd_top (v' := .int (nI (cs.getD ((gm_name cs (sA i0) (eA i0)) + 1) 0))) (congrArg Value.int (hln _ (by omega))) ?_
                  have := tx_lt hlc ((gm_name cs (sA i0) (eA i0)) + 1)
                  refine lv_bipush (v := nI 42) hx hb d_p15m16_205 (by decide) ?_
                  refine pd_jne (tgt := 221) hx hb d_p15m16_207 (by decide) (by omega) (by omega) (fun q1033 => ?_) (fun q1033 => ?_)
                  · -- taken: 221
                    refine lv_iconst (v := nI 2) hx hb d_p15m16_221 (by decide) ?_
                    refine pd_put (ty := .int) X w f1025 hz_y rfl 39 (by decide) mT_1178 rfl rfl (by decide +kernel) rfl rfl (Nat.le_of_ble_eq_true rfl) d_p15m16_222 (fun H locs w => ?_)
                    have w : pd_w G s H locs (pd_up h1023 y (20, .inr (10, [.ref (ad 0), .ref (ad 1), .ref (ad 2), .int (iv 3), .int (iv 4), .int (iv 5), .ref (ad 6), .ref (ad 7), .ref (ad 8), .ref (ad 9), .ref (ad 10), .ref (ad 11), .int (iv 12), .ref (ad 13), .ref (ad 14), .ref (ad 15), .ref (ad 16), .ref (ad 17), .ref (ad 18), .ref (ad 19), .int (iv 20), .ref (ad 21), .ref (ad 22), .ref (ad 23), .ref (ad 24), .ref (ad 25), .ref (ad 26), .ref (ad 27), .ref (ad 28), .int (iv 29), .ref (ad 30), .ref (ad 31), .int (iv 32), .int (iv 33), .int (iv 34), .int (iv 35), .long tl, .int (nI 0), .int (nI (gm_name cs (sA i0) (eA i0))), .int (nI 2), .int (nI (eA i0)), .ref (ad 41), .ref (ad 42), .int (iv 43)]))) := w
                    obtain ⟨h1034, u1037⟩ : ∃ z, z = pd_up h1023 y (20, .inr (10, [.ref (ad 0), .ref (ad 1), .ref (ad 2), .int (iv 3), .int (iv 4), .int (iv 5), .ref (ad 6), .ref (ad 7), .ref (ad 8), .ref (ad 9), .ref (ad 10), .ref (ad 11), .int (iv 12), .ref (ad 13), .ref (ad 14), .ref (ad 15), .ref (ad 16), .ref (ad 17), .ref (ad 18), .ref (ad 19), .int (iv 20), .ref (ad 21), .ref (ad 22), .ref (ad 23), .ref (ad 24), .ref (ad 25), .ref (ad 26), .ref (ad 27), .ref (ad 28), .int (iv 29), .ref (ad 30), .ref (ad 31), .int (iv 32), .int (iv 33), .int (iv 34), .int (iv 35), .long tl, .int (nI 0), .int (nI (gm_name cs (sA i0) (eA i0))), .int (nI 2), .int (nI (eA i0)), .ref (ad 41), .ref (ad 42), .int (iv 43)])) := ⟨_, rfl⟩
                    rw [← u1037] at w
                    have k1035 : pd_kq y h1023 h1034 := by rw [u1037]; exact pd_up_kq
                    have f1036 : h1034 y = some (20, .inr (10, [.ref (ad 0), .ref (ad 1), .ref (ad 2), .int (iv 3), .int (iv 4), .int (iv 5), .ref (ad 6), .ref (ad 7), .ref (ad 8), .ref (ad 9), .ref (ad 10), .ref (ad 11), .int (iv 12), .ref (ad 13), .ref (ad 14), .ref (ad 15), .ref (ad 16), .ref (ad 17), .ref (ad 18), .ref (ad 19), .int (iv 20), .ref (ad 21), .ref (ad 22), .ref (ad 23), .ref (ad 24), .ref (ad 25), .ref (ad 26), .ref (ad 27), .ref (ad 28), .int (iv 29), .ref (ad 30), .ref (ad 31), .int (iv 32), .int (iv 33), .int (iv 34), .int (iv 35), .long tl, .int (nI 0), .int (nI (gm_name cs (sA i0) (eA i0))), .int (nI 2), .int (nI (eA i0)), .ref (ad 41), .ref (ad 42), .int (iv 43)])) := by rw [u1037]; exact pd_up_s _ _ _
                    have f1038 := k1035 _ _ (pd_ne f1027 f1025 (by simp)) f1027
                    have f1039 := k1035 _ _ (pd_ne f1028 f1025 (by simp)) f1028
                    have f1040 := k1035 _ _ (pd_ne f1029 f1025 (by simp)) f1029
                    refine lv_aload_n hx hb d_p15m16_225 rfl (lv_at hl 2 rfl) ?_
                    refine lv_iload_n hx hb d_p15m16_226 rfl (lv_at hl 0 rfl) ?_
                    refine lv_iconst (v := nI 1) hx hb d_p15m16_227 (by decide) ?_
                    refine pd_iadd hx hb d_p15m16_228 ?_
                    refine pd_put (ty := .int) X w f1036 hz_y rfl 40 (by decide) mT_1179 rfl rfl (by decide +kernel) rfl rfl (Nat.le_of_ble_eq_true rfl) d_p15m16_229 (fun H locs w => ?_)
                    have w : pd_w G s H locs (pd_up h1034 y (20, .inr (10, [.ref (ad 0), .ref (ad 1), .ref (ad 2), .int (iv 3), .int (iv 4), .int (iv 5), .ref (ad 6), .ref (ad 7), .ref (ad 8), .ref (ad 9), .ref (ad 10), .ref (ad 11), .int (iv 12), .ref (ad 13), .ref (ad 14), .ref (ad 15), .ref (ad 16), .ref (ad 17), .ref (ad 18), .ref (ad 19), .int (iv 20), .ref (ad 21), .ref (ad 22), .ref (ad 23), .ref (ad 24), .ref (ad 25), .ref (ad 26), .ref (ad 27), .ref (ad 28), .int (iv 29), .ref (ad 30), .ref (ad 31), .int (iv 32), .int (iv 33), .int (iv 34), .int (iv 35), .long tl, .int (nI 0), .int (nI (gm_name cs (sA i0) (eA i0))), .int (nI 2), .int (nI ((gm_name cs (sA i0) (eA i0)) + 1)), .ref (ad 41), .ref (ad 42), .int (iv 43)]))) := w
                    obtain ⟨h1041, u1044⟩ : ∃ z, z = pd_up h1034 y (20, .inr (10, [.ref (ad 0), .ref (ad 1), .ref (ad 2), .int (iv 3), .int (iv 4), .int (iv 5), .ref (ad 6), .ref (ad 7), .ref (ad 8), .ref (ad 9), .ref (ad 10), .ref (ad 11), .int (iv 12), .ref (ad 13), .ref (ad 14), .ref (ad 15), .ref (ad 16), .ref (ad 17), .ref (ad 18), .ref (ad 19), .int (iv 20), .ref (ad 21), .ref (ad 22), .ref (ad 23), .ref (ad 24), .ref (ad 25), .ref (ad 26), .ref (ad 27), .ref (ad 28), .int (iv 29), .ref (ad 30), .ref (ad 31), .int (iv 32), .int (iv 33), .int (iv 34), .int (iv 35), .long tl, .int (nI 0), .int (nI (gm_name cs (sA i0) (eA i0))), .int (nI 2), .int (nI ((gm_name cs (sA i0) (eA i0)) + 1)), .ref (ad 41), .ref (ad 42), .int (iv 43)])) := ⟨_, rfl⟩
                    rw [← u1044] at w
                    have k1042 : pd_kq y h1034 h1041 := by rw [u1044]; exact pd_up_kq
                    have f1043 : h1041 y = some (20, .inr (10, [.ref (ad 0), .ref (ad 1), .ref (ad 2), .int (iv 3), .int (iv 4), .int (iv 5), .ref (ad 6), .ref (ad 7), .ref (ad 8), .ref (ad 9), .ref (ad 10), .ref (ad 11), .int (iv 12), .ref (ad 13), .ref (ad 14), .ref (ad 15), .ref (ad 16), .ref (ad 17), .ref (ad 18), .ref (ad 19), .int (iv 20), .ref (ad 21), .ref (ad 22), .ref (ad 23), .ref (ad 24), .ref (ad 25), .ref (ad 26), .ref (ad 27), .ref (ad 28), .int (iv 29), .ref (ad 30), .ref (ad 31), .int (iv 32), .int (iv 33), .int (iv 34), .int (iv 35), .long tl, .int (nI 0), .int (nI (gm_name cs (sA i0) (eA i0))), .int (nI 2), .int (nI ((gm_name cs (sA i0) (eA i0)) + 1)), .ref (ad 41), .ref (ad 42), .int (iv 43)])) := by rw [u1044]; exact pd_up_s _ _ _
                    have f1045 := k1042 _ _ (pd_ne f1038 f1036 (by simp)) f1038
                    have f1046 := k1042 _ _ (pd_ne f1039 f1036 (by simp)) f1039
                    have f1047 := k1042 _ _ (pd_ne f1040 f1036 (by simp)) f1040
                    refine lv_aload_n hx hb d_p15m16_232 rfl (lv_at hl 2 rfl) ?_
                    refine pd_get X w f1043 rfl 39 (by decide) mT_1178 rfl rfl d_p15m16_233 ?_
                    refine lv_iconst (v := nI 1) hx hb d_p15m16_236 (by decide) ?_
                    refine pd_jeq (tgt := 252) hx hb d_p15m16_237 (by decide) (by decide) (by decide) (fun q => absurd q (by decide)) (fun _ => ?_)
                    refine lv_aload_n hx hb d_p15m16_240 rfl (lv_at hl 2 rfl) ?_
                    refine lv_iload_n hx hb d_p15m16_241 rfl (lv_at hl 0 rfl) ?_
                    refine lv_iconst (v := nI 1) hx hb d_p15m16_242 (by decide) ?_
                    refine pd_iadd hx hb d_p15m16_243 ?_
                    refine lv_iload_n hx hb d_p15m16_244 rfl (lv_at hl 1 rfl) ?_
                    refine pd_cV (a := y) (As := [.int (nI ((gm_name cs (sA i0) (eA i0)) + 1)), .int (nI (eA i0))]) (rest := []) X w f1043 rfl (c_PolicyDeskModel_behindPart l G h1041 (ad := ad) (fv := fv) (iv := pd_fu (pd_fu (pd_fu (pd_fu iv 37 (nI 0)) 38 (nI (gm_name cs (sA i0) (eA i0)))) 39 (nI 2)) 40 (nI ((gm_name cs (sA i0) (eA i0)) + 1))) (tl := tl) (pd_MO.of (fv2 := fv) (iv2 := pd_fu (pd_fu (pd_fu (pd_fu iv 37 (nI 0)) 38 (nI (gm_name cs (sA i0) (eA i0)))) 39 (nI 2)) 40 (nI ((gm_name cs (sA i0) (eA i0)) + 1))) (tl2 := tl) (ts := [20]) hMO (pd_kx.tr (pd_kx.tr (pd_kx.tr (pd_kx.tr (pd_kx.tr (pd_kx.tr (pd_kx.tr (pd_kq.kx (k2) hy0) (pd_kq.kx (k9) f3)) (pd_kq.kx (k1002) f10)) (pd_kq.kx (k1009) f1003)) (pd_kq.kx (k1017) f1010)) (pd_kq.kx (k1024) f1018)) (pd_kq.kx (k1035) f1025)) (pd_kq.kx (k1042) f1036)) f1043 (fun j hj => Or.inr ⟨fun z => by first | (simp at z; done) | (simp at z; omega), rfl⟩)) hL (by omega) (by omega)) ok_PolicyDeskModel_behindPart ⟨mT_1315, sT_19⟩ mT_1313 ⟨by decide, by decide⟩ rfl hl.1 rfl (Nat.le_of_ble_eq_true rfl) d_p15m16_245 ⟨by decide, by decide⟩ (fun r1049 h1050 H locs hp1051 w => ?_)
                    refine W.widen (k := 0) (n := 0) (by decide) (by decide) ?_
                    obtain ⟨e1052, rfl⟩ := hp1051
                    have hpl := gm_part_le (cs := cs) (x := gm_name cs (sA i0) (eA i0) + 1) (to := eA i0) (by omega)
                    refine lv_iload_n hx hb d_p15m16_248 rfl (lv_at hl 1 rfl) ?_
                    refine pd_jne (tgt := 256) hx hb d_p15m16_249 (by decide) (by omega) (by omega) (fun q1053 => ?_) (fun q1053 => ?_)
                    · -- taken: 256
                      refine lv_iconst (v := nI 0) hx hb d_p15m16_256 (by decide) ?_
                      have hpt : gm_pt cs (gm_name cs (sA i0) (eA i0)) (eA i0) = none := by unfold gm_pt; rw [if_neg (by omega), if_neg (by omega), if_neg (by omega), if_neg (by rw [← e1052]; omega)]
                      have hp : gm_pat cs (sA i0) (eA i0) = none := by unfold gm_pat; rw [hph]; simp only [hpt]
                      refine W.eq (g2 := F0 m 257 ls [.int (pd_b false)]) rfl ?_
                      exact pd_zret (v := false) X w ⟨by rw [hp]; rfl, pd_kx.tr (pd_kx.tr (pd_kx.tr (pd_kx.tr (pd_kx.tr (pd_kx.tr (pd_kx.tr (pd_kq.kx (k2) hy0) (pd_kq.kx (k9) f3)) (pd_kq.kx (k1002) f10)) (pd_kq.kx (k1009) f1003)) (pd_kq.kx (k1017) f1010)) (pd_kq.kx (k1024) f1018)) (pd_kq.kx (k1035) f1025)) (pd_kq.kx (k1042) f1036), (nI 0), (nI (gm_name cs (sA i0) (eA i0))), (nI 2), (nI ((gm_name cs (sA i0) (eA i0)) + 1)), (pd_MO.of (fv2 := fv) (iv2 := pd_fu (pd_fu (pd_fu (pd_fu iv 37 (nI 0)) 38 (nI (gm_name cs (sA i0) (eA i0)))) 39 (nI 2)) 40 (nI ((gm_name cs (sA i0) (eA i0)) + 1))) (tl2 := tl) (ts := [20]) hMO (pd_kx.tr (pd_kx.tr (pd_kx.tr (pd_kx.tr (pd_kx.tr (pd_kx.tr (pd_kx.tr (pd_kq.kx (k2) hy0) (pd_kq.kx (k9) f3)) (pd_kq.kx (k1002) f10)) (pd_kq.kx (k1009) f1003)) (pd_kq.kx (k1017) f1010)) (pd_kq.kx (k1024) f1018)) (pd_kq.kx (k1035) f1025)) (pd_kq.kx (k1042) f1036)) f1043 (fun j hj => Or.inr ⟨fun z => by first | (simp at z; done) | (simp at z; omega), rfl⟩)), fun t9 ht9 => by rw [hp] at ht9; cases ht9⟩ (by decide) (by decide) d_p15m16_257
                    · -- not taken: 252
                      refine lv_iconst (v := nI 1) hx hb d_p15m16_252 (by decide) ?_
                      refine lv_goto (tgt := 257) hx hb d_p15m16_253 (by decide) ?_
                      have hpt : gm_pt cs (gm_name cs (sA i0) (eA i0)) (eA i0) = some (2, gm_name cs (sA i0) (eA i0) + 1) := by unfold gm_pt; rw [if_neg (by omega), if_neg (by omega), if_neg (by omega), if_pos (by rw [← e1052]; omega)]
                      have hp : gm_pat cs (sA i0) (eA i0) = some (0, gm_name cs (sA i0) (eA i0), 2, gm_name cs (sA i0) (eA i0) + 1) := by unfold gm_pat; rw [hph]; simp only [hpt]
                      refine W.eq (g2 := F0 m 257 ls [.int (pd_b true)]) rfl ?_
                      exact pd_zret (v := true) X w ⟨by rw [hp]; rfl, pd_kx.tr (pd_kx.tr (pd_kx.tr (pd_kx.tr (pd_kx.tr (pd_kx.tr (pd_kx.tr (pd_kq.kx (k2) hy0) (pd_kq.kx (k9) f3)) (pd_kq.kx (k1002) f10)) (pd_kq.kx (k1009) f1003)) (pd_kq.kx (k1017) f1010)) (pd_kq.kx (k1024) f1018)) (pd_kq.kx (k1035) f1025)) (pd_kq.kx (k1042) f1036), (nI 0), (nI (gm_name cs (sA i0) (eA i0))), (nI 2), (nI ((gm_name cs (sA i0) (eA i0)) + 1)), (pd_MO.of (fv2 := fv) (iv2 := pd_fu (pd_fu (pd_fu (pd_fu iv 37 (nI 0)) 38 (nI (gm_name cs (sA i0) (eA i0)))) 39 (nI 2)) 40 (nI ((gm_name cs (sA i0) (eA i0)) + 1))) (tl2 := tl) (ts := [20]) hMO (pd_kx.tr (pd_kx.tr (pd_kx.tr (pd_kx.tr (pd_kx.tr (pd_kx.tr (pd_kx.tr (pd_kq.kx (k2) hy0) (pd_kq.kx (k9) f3)) (pd_kq.kx (k1002) f10)) (pd_kq.kx (k1009) f1003)) (pd_kq.kx (k1017) f1010)) (pd_kq.kx (k1024) f1018)) (pd_kq.kx (k1035) f1025)) (pd_kq.kx (k1042) f1036)) f1043 (fun j hj => Or.inr ⟨fun z => by first | (simp at z; done) | (simp at z; omega), rfl⟩)), fun t9 ht9 => by rw [hp] at ht9; cases ht9; exact ⟨rfl, rfl, rfl, rfl⟩⟩ (by decide) (by decide) d_p15m16_257
                  · -- not taken: 210
                    refine lv_iload_n hx hb d_p15m16_210 rfl (lv_at hl 0 rfl) ?_
                    refine lv_iconst (v := nI 2) hx hb d_p15m16_211 (by decide) ?_
                    refine pd_iadd hx hb d_p15m16_212 ?_
                    refine lv_iload_n hx hb d_p15m16_213 rfl (lv_at hl 1 rfl) ?_
                    refine pd_jne (tgt := 221) hx hb d_p15m16_214 (by decide) (by omega) (by omega) (fun q1054 => ?_) (fun q1054 => ?_)
                    · -- taken: 221
                      refine lv_iconst (v := nI 2) hx hb d_p15m16_221 (by decide) ?_
                      refine pd_put (ty := .int) X w f1025 hz_y rfl 39 (by decide) mT_1178 rfl rfl (by decide +kernel) rfl rfl (Nat.le_of_ble_eq_true rfl) d_p15m16_222 (fun H locs w => ?_)
                      have w : pd_w G s H locs (pd_up h1023 y (20, .inr (10, [.ref (ad 0), .ref (ad 1), .ref (ad 2), .int (iv 3), .int (iv 4), .int (iv 5), .ref (ad 6), .ref (ad 7), .ref (ad 8), .ref (ad 9), .ref (ad 10), .ref (ad 11), .int (iv 12), .ref (ad 13), .ref (ad 14), .ref (ad 15), .ref (ad 16), .ref (ad 17), .ref (ad 18), .ref (ad 19), .int (iv 20), .ref (ad 21), .ref (ad 22), .ref (ad 23), .ref (ad 24), .ref (ad 25), .ref (ad 26), .ref (ad 27), .ref (ad 28), .int (iv 29), .ref (ad 30), .ref (ad 31), .int (iv 32), .int (iv 33), .int (iv 34), .int (iv 35), .long tl, .int (nI 0), .int (nI (gm_name cs (sA i0) (eA i0))), .int (nI 2), .int (nI (eA i0)), .ref (ad 41), .ref (ad 42), .int (iv 43)]))) := w
                      obtain ⟨h1055, u1058⟩ : ∃ z, z = pd_up h1023 y (20, .inr (10, [.ref (ad 0), .ref (ad 1), .ref (ad 2), .int (iv 3), .int (iv 4), .int (iv 5), .ref (ad 6), .ref (ad 7), .ref (ad 8), .ref (ad 9), .ref (ad 10), .ref (ad 11), .int (iv 12), .ref (ad 13), .ref (ad 14), .ref (ad 15), .ref (ad 16), .ref (ad 17), .ref (ad 18), .ref (ad 19), .int (iv 20), .ref (ad 21), .ref (ad 22), .ref (ad 23), .ref (ad 24), .ref (ad 25), .ref (ad 26), .ref (ad 27), .ref (ad 28), .int (iv 29), .ref (ad 30), .ref (ad 31), .int (iv 32), .int (iv 33), .int (iv 34), .int (iv 35), .long tl, .int (nI 0), .int (nI (gm_name cs (sA i0) (eA i0))), .int (nI 2), .int (nI (eA i0)), .ref (ad 41), .ref (ad 42), .int (iv 43)])) := ⟨_, rfl⟩
                      rw [← u1058] at w
                      have k1056 : pd_kq y h1023 h1055 := by rw [u1058]; exact pd_up_kq
                      have f1057 : h1055 y = some (20, .inr (10, [.ref (ad 0), .ref (ad 1), .ref (ad 2), .int (iv 3), .int (iv 4), .int (iv 5), .ref (ad 6), .ref (ad 7), .ref (ad 8), .ref (ad 9), .ref (ad 10), .ref (ad 11), .int (iv 12), .ref (ad 13), .ref (ad 14), .ref (ad 15), .ref (ad 16), .ref (ad 17), .ref (ad 18), .ref (ad 19), .int (iv 20), .ref (ad 21), .ref (ad 22), .ref (ad 23), .ref (ad 24), .ref (ad 25), .ref (ad 26), .ref (ad 27), .ref (ad 28), .int (iv 29), .ref (ad 30), .ref (ad 31), .int (iv 32), .int (iv 33), .int (iv 34), .int (iv 35), .long tl, .int (nI 0), .int (nI (gm_name cs (sA i0) (eA i0))), .int (nI 2), .int (nI (eA i0)), .ref (ad 41), .ref (ad 42), .int (iv 43)])) := by rw [u1058]; exact pd_up_s _ _ _
                      have f1059 := k1056 _ _ (pd_ne f1027 f1025 (by simp)) f1027
                      have f1060 := k1056 _ _ (pd_ne f1028 f1025 (by simp)) f1028
                      have f1061 := k1056 _ _ (pd_ne f1029 f1025 (by simp)) f1029
                      refine lv_aload_n hx hb d_p15m16_225 rfl (lv_at hl 2 rfl) ?_
                      refine lv_iload_n hx hb d_p15m16_226 rfl (lv_at hl 0 rfl) ?_
                      refine lv_iconst (v := nI 1) hx hb d_p15m16_227 (by decide) ?_
                      refine pd_iadd hx hb d_p15m16_228 ?_
                      refine pd_put (ty := .int) X w f1057 hz_y rfl 40 (by decide) mT_1179 rfl rfl (by decide +kernel) rfl rfl (Nat.le_of_ble_eq_true rfl) d_p15m16_229 (fun H locs w => ?_)
                      have w : pd_w G s H locs (pd_up h1055 y (20, .inr (10, [.ref (ad 0), .ref (ad 1), .ref (ad 2), .int (iv 3), .int (iv 4), .int (iv 5), .ref (ad 6), .ref (ad 7), .ref (ad 8), .ref (ad 9), .ref (ad 10), .ref (ad 11), .int (iv 12), .ref (ad 13), .ref (ad 14), .ref (ad 15), .ref (ad 16), .ref (ad 17), .ref (ad 18), .ref (ad 19), .int (iv 20), .ref (ad 21), .ref (ad 22), .ref (ad 23), .ref (ad 24), .ref (ad 25), .ref (ad 26), .ref (ad 27), .ref (ad 28), .int (iv 29), .ref (ad 30), .ref (ad 31), .int (iv 32), .int (iv 33), .int (iv 34), .int (iv 35), .long tl, .int (nI 0), .int (nI (gm_name cs (sA i0) (eA i0))), .int (nI 2), .int (nI ((gm_name cs (sA i0) (eA i0)) + 1)), .ref (ad 41), .ref (ad 42), .int (iv 43)]))) := w
                      obtain ⟨h1062, u1065⟩ : ∃ z, z = pd_up h1055 y (20, .inr (10, [.ref (ad 0), .ref (ad 1), .ref (ad 2), .int (iv 3), .int (iv 4), .int (iv 5), .ref (ad 6), .ref (ad 7), .ref (ad 8), .ref (ad 9), .ref (ad 10), .ref (ad 11), .int (iv 12), .ref (ad 13), .ref (ad 14), .ref (ad 15), .ref (ad 16), .ref (ad 17), .ref (ad 18), .ref (ad 19), .int (iv 20), .ref (ad 21), .ref (ad 22), .ref (ad 23), .ref (ad 24), .ref (ad 25), .ref (ad 26), .ref (ad 27), .ref (ad 28), .int (iv 29), .ref (ad 30), .ref (ad 31), .int (iv 32), .int (iv 33), .int (iv 34), .int (iv 35), .long tl, .int (nI 0), .int (nI (gm_name cs (sA i0) (eA i0))), .int (nI 2), .int (nI ((gm_name cs (sA i0) (eA i0)) + 1)), .ref (ad 41), .ref (ad 42), .int (iv 43)])) := ⟨_, rfl⟩
                      rw [← u1065] at w
                      have k1063 : pd_kq y h1055 h1062 := by rw [u1065]; exact pd_up_kq
                      have f1064 : h1062 y = some (20, .inr (10, [.ref (ad 0), .ref (ad 1), .ref (ad 2), .int (iv 3), .int (iv 4), .int (iv 5), .ref (ad 6), .ref (ad 7), .ref (ad 8), .ref (ad 9), .ref (ad 10), .ref (ad 11), .int (iv 12), .ref (ad 13), .ref (ad 14), .ref (ad 15), .ref (ad 16), .ref (ad 17), .ref (ad 18), .ref (ad 19), .int (iv 20), .ref (ad 21), .ref (ad 22), .ref (ad 23), .ref (ad 24), .ref (ad 25), .ref (ad 26), .ref (ad 27), .ref (ad 28), .int (iv 29), .ref (ad 30), .ref (ad 31), .int (iv 32), .int (iv 33), .int (iv 34), .int (iv 35), .long tl, .int (nI 0), .int (nI (gm_name cs (sA i0) (eA i0))), .int (nI 2), .int (nI ((gm_name cs (sA i0) (eA i0)) + 1)), .ref (ad 41), .ref (ad 42), .int (iv 43)])) := by rw [u1065]; exact pd_up_s _ _ _
                      have f1066 := k1063 _ _ (pd_ne f1059 f1057 (by simp)) f1059
                      have f1067 := k1063 _ _ (pd_ne f1060 f1057 (by simp)) f1060
                      have f1068 := k1063 _ _ (pd_ne f1061 f1057 (by simp)) f1061
                      refine lv_aload_n hx hb d_p15m16_232 rfl (lv_at hl 2 rfl) ?_
                      refine pd_get X w f1064 rfl 39 (by decide) mT_1178 rfl rfl d_p15m16_233 ?_
                      refine lv_iconst (v := nI 1) hx hb d_p15m16_236 (by decide) ?_
                      refine pd_jeq (tgt := 252) hx hb d_p15m16_237 (by decide) (by decide) (by decide) (fun q => absurd q (by decide)) (fun _ => ?_)
                      refine lv_aload_n hx hb d_p15m16_240 rfl (lv_at hl 2 rfl) ?_
                      refine lv_iload_n hx hb d_p15m16_241 rfl (lv_at hl 0 rfl) ?_
                      refine lv_iconst (v := nI 1) hx hb d_p15m16_242 (by decide) ?_
                      refine pd_iadd hx hb d_p15m16_243 ?_
                      refine lv_iload_n hx hb d_p15m16_244 rfl (lv_at hl 1 rfl) ?_
                      refine pd_cV (a := y) (As := [.int (nI ((gm_name cs (sA i0) (eA i0)) + 1)), .int (nI (eA i0))]) (rest := []) X w f1064 rfl (c_PolicyDeskModel_behindPart l G h1062 (ad := ad) (fv := fv) (iv := pd_fu (pd_fu (pd_fu (pd_fu iv 37 (nI 0)) 38 (nI (gm_name cs (sA i0) (eA i0)))) 39 (nI 2)) 40 (nI ((gm_name cs (sA i0) (eA i0)) + 1))) (tl := tl) (pd_MO.of (fv2 := fv) (iv2 := pd_fu (pd_fu (pd_fu (pd_fu iv 37 (nI 0)) 38 (nI (gm_name cs (sA i0) (eA i0)))) 39 (nI 2)) 40 (nI ((gm_name cs (sA i0) (eA i0)) + 1))) (tl2 := tl) (ts := [20]) hMO (pd_kx.tr (pd_kx.tr (pd_kx.tr (pd_kx.tr (pd_kx.tr (pd_kx.tr (pd_kx.tr (pd_kq.kx (k2) hy0) (pd_kq.kx (k9) f3)) (pd_kq.kx (k1002) f10)) (pd_kq.kx (k1009) f1003)) (pd_kq.kx (k1017) f1010)) (pd_kq.kx (k1024) f1018)) (pd_kq.kx (k1056) f1025)) (pd_kq.kx (k1063) f1057)) f1064 (fun j hj => Or.inr ⟨fun z => by first | (simp at z; done) | (simp at z; omega), rfl⟩)) hL (by omega) (by omega)) ok_PolicyDeskModel_behindPart ⟨mT_1315, sT_19⟩ mT_1313 ⟨by decide, by decide⟩ rfl hl.1 rfl (Nat.le_of_ble_eq_true rfl) d_p15m16_245 ⟨by decide, by decide⟩ (fun r1070 h1071 H locs hp1072 w => ?_)
                      refine W.widen (k := 0) (n := 0) (by decide) (by decide) ?_
                      obtain ⟨e1073, rfl⟩ := hp1072
                      have hpl := gm_part_le (cs := cs) (x := gm_name cs (sA i0) (eA i0) + 1) (to := eA i0) (by omega)
                      refine lv_iload_n hx hb d_p15m16_248 rfl (lv_at hl 1 rfl) ?_
                      refine pd_jne (tgt := 256) hx hb d_p15m16_249 (by decide) (by omega) (by omega) (fun q1074 => ?_) (fun q1074 => ?_)
                      · -- taken: 256
                        refine lv_iconst (v := nI 0) hx hb d_p15m16_256 (by decide) ?_
                        have hpt : gm_pt cs (gm_name cs (sA i0) (eA i0)) (eA i0) = none := by unfold gm_pt; rw [if_neg (by omega), if_neg (by omega), if_neg (by omega), if_neg (by rw [← e1073]; omega)]
                        have hp : gm_pat cs (sA i0) (eA i0) = none := by unfold gm_pat; rw [hph]; simp only [hpt]
                        refine W.eq (g2 := F0 m 257 ls [.int (pd_b false)]) rfl ?_
                        exact pd_zret (v := false) X w ⟨by rw [hp]; rfl, pd_kx.tr (pd_kx.tr (pd_kx.tr (pd_kx.tr (pd_kx.tr (pd_kx.tr (pd_kx.tr (pd_kq.kx (k2) hy0) (pd_kq.kx (k9) f3)) (pd_kq.kx (k1002) f10)) (pd_kq.kx (k1009) f1003)) (pd_kq.kx (k1017) f1010)) (pd_kq.kx (k1024) f1018)) (pd_kq.kx (k1056) f1025)) (pd_kq.kx (k1063) f1057), (nI 0), (nI (gm_name cs (sA i0) (eA i0))), (nI 2), (nI ((gm_name cs (sA i0) (eA i0)) + 1)), (pd_MO.of (fv2 := fv) (iv2 := pd_fu (pd_fu (pd_fu (pd_fu iv 37 (nI 0)) 38 (nI (gm_name cs (sA i0) (eA i0)))) 39 (nI 2)) 40 (nI ((gm_name cs (sA i0) (eA i0)) + 1))) (tl2 := tl) (ts := [20]) hMO (pd_kx.tr (pd_kx.tr (pd_kx.tr (pd_kx.tr (pd_kx.tr (pd_kx.tr (pd_kx.tr (pd_kq.kx (k2) hy0) (pd_kq.kx (k9) f3)) (pd_kq.kx (k1002) f10)) (pd_kq.kx (k1009) f1003)) (pd_kq.kx (k1017) f1010)) (pd_kq.kx (k1024) f1018)) (pd_kq.kx (k1056) f1025)) (pd_kq.kx (k1063) f1057)) f1064 (fun j hj => Or.inr ⟨fun z => by first | (simp at z; done) | (simp at z; omega), rfl⟩)), fun t9 ht9 => by rw [hp] at ht9; cases ht9⟩ (by decide) (by decide) d_p15m16_257
                      · -- not taken: 252
                        refine lv_iconst (v := nI 1) hx hb d_p15m16_252 (by decide) ?_
                        refine lv_goto (tgt := 257) hx hb d_p15m16_253 (by decide) ?_
                        have hpt : gm_pt cs (gm_name cs (sA i0) (eA i0)) (eA i0) = some (2, gm_name cs (sA i0) (eA i0) + 1) := by unfold gm_pt; rw [if_neg (by omega), if_neg (by omega), if_neg (by omega), if_pos (by rw [← e1073]; omega)]
                        have hp : gm_pat cs (sA i0) (eA i0) = some (0, gm_name cs (sA i0) (eA i0), 2, gm_name cs (sA i0) (eA i0) + 1) := by unfold gm_pat; rw [hph]; simp only [hpt]
                        refine W.eq (g2 := F0 m 257 ls [.int (pd_b true)]) rfl ?_
                        exact pd_zret (v := true) X w ⟨by rw [hp]; rfl, pd_kx.tr (pd_kx.tr (pd_kx.tr (pd_kx.tr (pd_kx.tr (pd_kx.tr (pd_kx.tr (pd_kq.kx (k2) hy0) (pd_kq.kx (k9) f3)) (pd_kq.kx (k1002) f10)) (pd_kq.kx (k1009) f1003)) (pd_kq.kx (k1017) f1010)) (pd_kq.kx (k1024) f1018)) (pd_kq.kx (k1056) f1025)) (pd_kq.kx (k1063) f1057), (nI 0), (nI (gm_name cs (sA i0) (eA i0))), (nI 2), (nI ((gm_name cs (sA i0) (eA i0)) + 1)), (pd_MO.of (fv2 := fv) (iv2 := pd_fu (pd_fu (pd_fu (pd_fu iv 37 (nI 0)) 38 (nI (gm_name cs (sA i0) (eA i0)))) 39 (nI 2)) 40 (nI ((gm_name cs (sA i0) (eA i0)) + 1))) (tl2 := tl) (ts := [20]) hMO (pd_kx.tr (pd_kx.tr (pd_kx.tr (pd_kx.tr (pd_kx.tr (pd_kx.tr (pd_kx.tr (pd_kq.kx (k2) hy0) (pd_kq.kx (k9) f3)) (pd_kq.kx (k1002) f10)) (pd_kq.kx (k1009) f1003)) (pd_kq.kx (k1017) f1010)) (pd_kq.kx (k1024) f1018)) (pd_kq.kx (k1056) f1025)) (pd_kq.kx (k1063) f1057)) f1064 (fun j hj => Or.inr ⟨fun z => by first | (simp at z; done) | (simp at z; omega), rfl⟩)), fun t9 ht9 => by rw [hp] at ht9; cases ht9; exact ⟨rfl, rfl, rfl, rfl⟩⟩ (by decide) (by decide) d_p15m16_257
                    · -- not taken: 217
                      refine lv_iconst (v := nI 1) hx hb d_p15m16_217 (by decide) ?_
                      refine lv_goto (tgt := 222) hx hb d_p15m16_218 (by decide) ?_
                      refine pd_put (ty := .int) X w f1025 hz_y rfl 39 (by decide) mT_1178 rfl rfl (by decide +kernel) rfl rfl (Nat.le_of_ble_eq_true rfl) d_p15m16_222 (fun H locs w => ?_)
                      have w : pd_w G s H locs (pd_up h1023 y (20, .inr (10, [.ref (ad 0), .ref (ad 1), .ref (ad 2), .int (iv 3), .int (iv 4), .int (iv 5), .ref (ad 6), .ref (ad 7), .ref (ad 8), .ref (ad 9), .ref (ad 10), .ref (ad 11), .int (iv 12), .ref (ad 13), .ref (ad 14), .ref (ad 15), .ref (ad 16), .ref (ad 17), .ref (ad 18), .ref (ad 19), .int (iv 20), .ref (ad 21), .ref (ad 22), .ref (ad 23), .ref (ad 24), .ref (ad 25), .ref (ad 26), .ref (ad 27), .ref (ad 28), .int (iv 29), .ref (ad 30), .ref (ad 31), .int (iv 32), .int (iv 33), .int (iv 34), .int (iv 35), .long tl, .int (nI 0), .int (nI (gm_name cs (sA i0) (eA i0))), .int (nI 1), .int (nI (eA i0)), .ref (ad 41), .ref (ad 42), .int (iv 43)]))) := w
                      obtain ⟨h1075, u1078⟩ : ∃ z, z = pd_up h1023 y (20, .inr (10, [.ref (ad 0), .ref (ad 1), .ref (ad 2), .int (iv 3), .int (iv 4), .int (iv 5), .ref (ad 6), .ref (ad 7), .ref (ad 8), .ref (ad 9), .ref (ad 10), .ref (ad 11), .int (iv 12), .ref (ad 13), .ref (ad 14), .ref (ad 15), .ref (ad 16), .ref (ad 17), .ref (ad 18), .ref (ad 19), .int (iv 20), .ref (ad 21), .ref (ad 22), .ref (ad 23), .ref (ad 24), .ref (ad 25), .ref (ad 26), .ref (ad 27), .ref (ad 28), .int (iv 29), .ref (ad 30), .ref (ad 31), .int (iv 32), .int (iv 33), .int (iv 34), .int (iv 35), .long tl, .int (nI 0), .int (nI (gm_name cs (sA i0) (eA i0))), .int (nI 1), .int (nI (eA i0)), .ref (ad 41), .ref (ad 42), .int (iv 43)])) := ⟨_, rfl⟩
                      rw [← u1078] at w
                      have k1076 : pd_kq y h1023 h1075 := by rw [u1078]; exact pd_up_kq
                      have f1077 : h1075 y = some (20, .inr (10, [.ref (ad 0), .ref (ad 1), .ref (ad 2), .int (iv 3), .int (iv 4), .int (iv 5), .ref (ad 6), .ref (ad 7), .ref (ad 8), .ref (ad 9), .ref (ad 10), .ref (ad 11), .int (iv 12), .ref (ad 13), .ref (ad 14), .ref (ad 15), .ref (ad 16), .ref (ad 17), .ref (ad 18), .ref (ad 19), .int (iv 20), .ref (ad 21), .ref (ad 22), .ref (ad 23), .ref (ad 24), .ref (ad 25), .ref (ad 26), .ref (ad 27), .ref (ad 28), .int (iv 29), .ref (ad 30), .ref (ad 31), .int (iv 32), .int (iv 33), .int (iv 34), .int (iv 35), .long tl, .int (nI 0), .int (nI (gm_name cs (sA i0) (eA i0))), .int (nI 1), .int (nI (eA i0)), .ref (ad 41), .ref (ad 42), .int (iv 43)])) := by rw [u1078]; exact pd_up_s _ _ _
                      have f1079 := k1076 _ _ (pd_ne f1027 f1025 (by simp)) f1027
                      have f1080 := k1076 _ _ (pd_ne f1028 f1025 (by simp)) f1028
                      have f1081 := k1076 _ _ (pd_ne f1029 f1025 (by simp)) f1029
                      refine lv_aload_n hx hb d_p15m16_225 rfl (lv_at hl 2 rfl) ?_
                      refine lv_iload_n hx hb d_p15m16_226 rfl (lv_at hl 0 rfl) ?_
                      refine lv_iconst (v := nI 1) hx hb d_p15m16_227 (by decide) ?_
                      refine pd_iadd hx hb d_p15m16_228 ?_
                      refine pd_put (ty := .int) X w f1077 hz_y rfl 40 (by decide) mT_1179 rfl rfl (by decide +kernel) rfl rfl (Nat.le_of_ble_eq_true rfl) d_p15m16_229 (fun H locs w => ?_)
                      have w : pd_w G s H locs (pd_up h1075 y (20, .inr (10, [.ref (ad 0), .ref (ad 1), .ref (ad 2), .int (iv 3), .int (iv 4), .int (iv 5), .ref (ad 6), .ref (ad 7), .ref (ad 8), .ref (ad 9), .ref (ad 10), .ref (ad 11), .int (iv 12), .ref (ad 13), .ref (ad 14), .ref (ad 15), .ref (ad 16), .ref (ad 17), .ref (ad 18), .ref (ad 19), .int (iv 20), .ref (ad 21), .ref (ad 22), .ref (ad 23), .ref (ad 24), .ref (ad 25), .ref (ad 26), .ref (ad 27), .ref (ad 28), .int (iv 29), .ref (ad 30), .ref (ad 31), .int (iv 32), .int (iv 33), .int (iv 34), .int (iv 35), .long tl, .int (nI 0), .int (nI (gm_name cs (sA i0) (eA i0))), .int (nI 1), .int (nI ((gm_name cs (sA i0) (eA i0)) + 1)), .ref (ad 41), .ref (ad 42), .int (iv 43)]))) := w
                      obtain ⟨h1082, u1085⟩ : ∃ z, z = pd_up h1075 y (20, .inr (10, [.ref (ad 0), .ref (ad 1), .ref (ad 2), .int (iv 3), .int (iv 4), .int (iv 5), .ref (ad 6), .ref (ad 7), .ref (ad 8), .ref (ad 9), .ref (ad 10), .ref (ad 11), .int (iv 12), .ref (ad 13), .ref (ad 14), .ref (ad 15), .ref (ad 16), .ref (ad 17), .ref (ad 18), .ref (ad 19), .int (iv 20), .ref (ad 21), .ref (ad 22), .ref (ad 23), .ref (ad 24), .ref (ad 25), .ref (ad 26), .ref (ad 27), .ref (ad 28), .int (iv 29), .ref (ad 30), .ref (ad 31), .int (iv 32), .int (iv 33), .int (iv 34), .int (iv 35), .long tl, .int (nI 0), .int (nI (gm_name cs (sA i0) (eA i0))), .int (nI 1), .int (nI ((gm_name cs (sA i0) (eA i0)) + 1)), .ref (ad 41), .ref (ad 42), .int (iv 43)])) := ⟨_, rfl⟩
                      rw [← u1085] at w
                      have k1083 : pd_kq y h1075 h1082 := by rw [u1085]; exact pd_up_kq
                      have f1084 : h1082 y = some (20, .inr (10, [.ref (ad 0), .ref (ad 1), .ref (ad 2), .int (iv 3), .int (iv 4), .int (iv 5), .ref (ad 6), .ref (ad 7), .ref (ad 8), .ref (ad 9), .ref (ad 10), .ref (ad 11), .int (iv 12), .ref (ad 13), .ref (ad 14), .ref (ad 15), .ref (ad 16), .ref (ad 17), .ref (ad 18), .ref (ad 19), .int (iv 20), .ref (ad 21), .ref (ad 22), .ref (ad 23), .ref (ad 24), .ref (ad 25), .ref (ad 26), .ref (ad 27), .ref (ad 28), .int (iv 29), .ref (ad 30), .ref (ad 31), .int (iv 32), .int (iv 33), .int (iv 34), .int (iv 35), .long tl, .int (nI 0), .int (nI (gm_name cs (sA i0) (eA i0))), .int (nI 1), .int (nI ((gm_name cs (sA i0) (eA i0)) + 1)), .ref (ad 41), .ref (ad 42), .int (iv 43)])) := by rw [u1085]; exact pd_up_s _ _ _
                      have f1086 := k1083 _ _ (pd_ne f1079 f1077 (by simp)) f1079
                      have f1087 := k1083 _ _ (pd_ne f1080 f1077 (by simp)) f1080
                      have f1088 := k1083 _ _ (pd_ne f1081 f1077 (by simp)) f1081
                      refine lv_aload_n hx hb d_p15m16_232 rfl (lv_at hl 2 rfl) ?_
                      refine pd_get X w f1084 rfl 39 (by decide) mT_1178 rfl rfl d_p15m16_233 ?_
                      refine lv_iconst (v := nI 1) hx hb d_p15m16_236 (by decide) ?_
                      refine pd_jeq (tgt := 252) hx hb d_p15m16_237 (by decide) (by decide) (by decide) (fun _ => ?_) (fun q => absurd q (by decide))
                      refine lv_iconst (v := nI 1) hx hb d_p15m16_252 (by decide) ?_
                      refine lv_goto (tgt := 257) hx hb d_p15m16_253 (by decide) ?_
                      have hpt : gm_pt cs (gm_name cs (sA i0) (eA i0)) (eA i0) = some (1, gm_name cs (sA i0) (eA i0) + 1) := by unfold gm_pt; rw [if_neg (by omega), if_neg (by omega), if_pos (by omega)]
                      have hp : gm_pat cs (sA i0) (eA i0) = some (0, gm_name cs (sA i0) (eA i0), 1, gm_name cs (sA i0) (eA i0) + 1) := by unfold gm_pat; rw [hph]; simp only [hpt]
                      refine W.eq (g2 := F0 m 257 ls [.int (pd_b true)]) rfl ?_
                      exact pd_zret (v := true) X w ⟨by rw [hp]; rfl, pd_kx.tr (pd_kx.tr (pd_kx.tr (pd_kx.tr (pd_kx.tr (pd_kx.tr (pd_kx.tr (pd_kq.kx (k2) hy0) (pd_kq.kx (k9) f3)) (pd_kq.kx (k1002) f10)) (pd_kq.kx (k1009) f1003)) (pd_kq.kx (k1017) f1010)) (pd_kq.kx (k1024) f1018)) (pd_kq.kx (k1076) f1025)) (pd_kq.kx (k1083) f1077), (nI 0), (nI (gm_name cs (sA i0) (eA i0))), (nI 1), (nI ((gm_name cs (sA i0) (eA i0)) + 1)), (pd_MO.of (fv2 := fv) (iv2 := pd_fu (pd_fu (pd_fu (pd_fu iv 37 (nI 0)) 38 (nI (gm_name cs (sA i0) (eA i0)))) 39 (nI 1)) 40 (nI ((gm_name cs (sA i0) (eA i0)) + 1))) (tl2 := tl) (ts := [20]) hMO (pd_kx.tr (pd_kx.tr (pd_kx.tr (pd_kx.tr (pd_kx.tr (pd_kx.tr (pd_kx.tr (pd_kq.kx (k2) hy0) (pd_kq.kx (k9) f3)) (pd_kq.kx (k1002) f10)) (pd_kq.kx (k1009) f1003)) (pd_kq.kx (k1017) f1010)) (pd_kq.kx (k1024) f1018)) (pd_kq.kx (k1076) f1025)) (pd_kq.kx (k1083) f1077)) f1084 (fun j hj => Or.inr ⟨fun z => by first | (simp at z; done) | (simp at z; omega), rfl⟩)), fun t9 ht9 => by rw [hp] at ht9; cases ht9; exact ⟨rfl, rfl, rfl, rfl⟩⟩ (by decide) (by decide) d_p15m16_257
                · -- not taken: 194
                  refine lv_iconst (v := nI 0) hx hb d_p15m16_194 (by decide) ?_
                  have hpt : gm_pt cs (gm_name cs (sA i0) (eA i0)) (eA i0) = none := by unfold gm_pt; rw [if_neg (by omega), if_pos (by omega)]
                  have hp : gm_pat cs (sA i0) (eA i0) = none := by unfold gm_pat; rw [hph]; simp only [hpt]
                  refine W.eq (g2 := F0 m 195 ls [.int (pd_b false)]) rfl ?_
                  exact pd_zret (v := false) X w ⟨by rw [hp]; rfl, pd_kx.tr (pd_kx.tr (pd_kx.tr (pd_kx.tr (pd_kx.tr (pd_kq.kx (k2) hy0) (pd_kq.kx (k9) f3)) (pd_kq.kx (k1002) f10)) (pd_kq.kx (k1009) f1003)) (pd_kq.kx (k1017) f1010)) (pd_kq.kx (k1024) f1018), (nI 0), (nI (gm_name cs (sA i0) (eA i0))), (nI 0), (nI (eA i0)), (pd_MO.of (fv2 := fv) (iv2 := pd_fu (pd_fu (pd_fu (pd_fu iv 37 (nI 0)) 38 (nI (gm_name cs (sA i0) (eA i0)))) 39 (nI 0)) 40 (nI (eA i0))) (tl2 := tl) (ts := [20]) hMO (pd_kx.tr (pd_kx.tr (pd_kx.tr (pd_kx.tr (pd_kx.tr (pd_kq.kx (k2) hy0) (pd_kq.kx (k9) f3)) (pd_kq.kx (k1002) f10)) (pd_kq.kx (k1009) f1003)) (pd_kq.kx (k1017) f1010)) (pd_kq.kx (k1024) f1018)) f1025 (fun j hj => Or.inr ⟨fun z => by first | (simp at z; done) | (simp at z; omega), rfl⟩)), fun t9 ht9 => by rw [hp] at ht9; cases ht9⟩ (by decide) (by decide) d_p15m16_195
            · -- not taken: 174
              refine lv_iconst (v := nI 1) hx hb d_p15m16_174 (by decide) ?_
              have hpt : gm_pt cs (gm_name cs (sA i0) (eA i0)) (eA i0) = some (0, eA i0) := by unfold gm_pt; rw [if_pos (by omega)]
              have hp : gm_pat cs (sA i0) (eA i0) = some (0, gm_name cs (sA i0) (eA i0), 0, eA i0) := by unfold gm_pat; rw [hph]; simp only [hpt]
              refine W.eq (g2 := F0 m 175 ls [.int (pd_b true)]) rfl ?_
              exact pd_zret (v := true) X w ⟨by rw [hp]; rfl, pd_kx.tr (pd_kx.tr (pd_kx.tr (pd_kx.tr (pd_kx.tr (pd_kq.kx (k2) hy0) (pd_kq.kx (k9) f3)) (pd_kq.kx (k1002) f10)) (pd_kq.kx (k1009) f1003)) (pd_kq.kx (k1017) f1010)) (pd_kq.kx (k1024) f1018), (nI 0), (nI (gm_name cs (sA i0) (eA i0))), (nI 0), (nI (eA i0)), (pd_MO.of (fv2 := fv) (iv2 := pd_fu (pd_fu (pd_fu (pd_fu iv 37 (nI 0)) 38 (nI (gm_name cs (sA i0) (eA i0)))) 39 (nI 0)) 40 (nI (eA i0))) (tl2 := tl) (ts := [20]) hMO (pd_kx.tr (pd_kx.tr (pd_kx.tr (pd_kx.tr (pd_kx.tr (pd_kq.kx (k2) hy0) (pd_kq.kx (k9) f3)) (pd_kq.kx (k1002) f10)) (pd_kq.kx (k1009) f1003)) (pd_kq.kx (k1017) f1010)) (pd_kq.kx (k1024) f1018)) f1025 (fun j hj => Or.inr ⟨fun z => by first | (simp at z; done) | (simp at z; omega), rfl⟩)), fun t9 ht9 => by rw [hp] at ht9; cases ht9; exact ⟨rfl, rfl, rfl, rfl⟩⟩ (by decide) (by decide) d_p15m16_175
          · -- not taken: 97
            refine lv_aload_n hx hb d_p15m16_97 rfl (lv_at hl 2 rfl) ?_
            refine pd_get X w f1010 rfl 0 (by decide) mT_1139 rfl rfl d_p15m16_98 ?_
            refine lv_iload_n hx hb d_p15m16_101 rfl (lv_at hl 0 rfl) ?_
            refine pd_iald X w f1012 (by omega) (by omega) d_p15m16_102 ?_
            refine pd_top (v' := .int (nI (cs.getD (gm_name cs (sA i0) (eA i0)) 0))) (congrArg Value.int (hln _ (by omega))) ?_
            have := tx_lt hlc (gm_name cs (sA i0) (eA i0))
            refine lv_bipush (v := nI 47) hx hb d_p15m16_103 (by decide) ?_
            refine pd_jne (tgt := 159) hx hb d_p15m16_105 (by decide) (by omega) (by omega) (fun q1090 => ?_) (fun q1090 => ?_)
            · -- taken: 159
              have hph : gm_ph cs (sA i0) (eA i0) = some (0, gm_name cs (sA i0) (eA i0), gm_name cs (sA i0) (eA i0)) := by unfold gm_ph; rw [if_neg (by omega), if_neg (by omega), if_neg (by omega)]
              refine lv_aload_n hx hb d_p15m16_159 rfl (lv_at hl 2 rfl) ?_
              refine lv_iconst (v := nI 0) hx hb d_p15m16_160 (by decide) ?_
              refine pd_put (ty := .int) X w f1010 hz_y rfl 39 (by decide) mT_1178 rfl rfl (by decide +kernel) rfl rfl (Nat.le_of_ble_eq_true rfl) d_p15m16_161 (fun H locs w => ?_)
              have w : pd_w G s H locs (pd_up h1008 y (20, .inr (10, [.ref (ad 0), .ref (ad 1), .ref (ad 2), .int (iv 3), .int (iv 4), .int (iv 5), .ref (ad 6), .ref (ad 7), .ref (ad 8), .ref (ad 9), .ref (ad 10), .ref (ad 11), .int (iv 12), .ref (ad 13), .ref (ad 14), .ref (ad 15), .ref (ad 16), .ref (ad 17), .ref (ad 18), .ref (ad 19), .int (iv 20), .ref (ad 21), .ref (ad 22), .ref (ad 23), .ref (ad 24), .ref (ad 25), .ref (ad 26), .ref (ad 27), .ref (ad 28), .int (iv 29), .ref (ad 30), .ref (ad 31), .int (iv 32), .int (iv 33), .int (iv 34), .int (iv 35), .long tl, .int (nI 0), .int (nI (gm_name cs (sA i0) (eA i0))), .int (nI 0), .int (iv 40), .ref (ad 41), .ref (ad 42), .int (iv 43)]))) := w
              obtain ⟨h1091, u1094⟩ : ∃ z, z = pd_up h1008 y (20, .inr (10, [.ref (ad 0), .ref (ad 1), .ref (ad 2), .int (iv 3), .int (iv 4), .int (iv 5), .ref (ad 6), .ref (ad 7), .ref (ad 8), .ref (ad 9), .ref (ad 10), .ref (ad 11), .int (iv 12), .ref (ad 13), .ref (ad 14), .ref (ad 15), .ref (ad 16), .ref (ad 17), .ref (ad 18), .ref (ad 19), .int (iv 20), .ref (ad 21), .ref (ad 22), .ref (ad 23), .ref (ad 24), .ref (ad 25), .ref (ad 26), .ref (ad 27), .ref (ad 28), .int (iv 29), .ref (ad 30), .ref (ad 31), .int (iv 32), .int (iv 33), .int (iv 34), .int (iv 35), .long tl, .int (nI 0), .int (nI (gm_name cs (sA i0) (eA i0))), .int (nI 0), .int (iv 40), .ref (ad 41), .ref (ad 42), .int (iv 43)])) := ⟨_, rfl⟩
              rw [← u1094] at w
              have k1092 : pd_kq y h1008 h1091 := by rw [u1094]; exact pd_up_kq
              have f1093 : h1091 y = some (20, .inr (10, [.ref (ad 0), .ref (ad 1), .ref (ad 2), .int (iv 3), .int (iv 4), .int (iv 5), .ref (ad 6), .ref (ad 7), .ref (ad 8), .ref (ad 9), .ref (ad 10), .ref (ad 11), .int (iv 12), .ref (ad 13), .ref (ad 14), .ref (ad 15), .ref (ad 16), .ref (ad 17), .ref (ad 18), .ref (ad 19), .int (iv 20), .ref (ad 21), .ref (ad 22), .ref (ad 23), .ref (ad 24), .ref (ad 25), .ref (ad 26), .ref (ad 27), .ref (ad 28), .int (iv 29), .ref (ad 30), .ref (ad 31), .int (iv 32), .int (iv 33), .int (iv 34), .int (iv 35), .long tl, .int (nI 0), .int (nI (gm_name cs (sA i0) (eA i0))), .int (nI 0), .int (iv 40), .ref (ad 41), .ref (ad 42), .int (iv 43)])) := by rw [u1094]; exact pd_up_s _ _ _
              have f1095 := k1092 _ _ (pd_ne f1012 f1010 (by simp)) f1012
              have f1096 := k1092 _ _ (pd_ne f1013 f1010 (by simp)) f1013
              have f1097 := k1092 _ _ (pd_ne f1014 f1010 (by simp)) f1014
              refine lv_aload_n hx hb d_p15m16_164 rfl (lv_at hl 2 rfl) ?_
              refine lv_iload_n hx hb d_p15m16_165 rfl (lv_at hl 1 rfl) ?_
              refine pd_put (ty := .int) X w f1093 hz_y rfl 40 (by decide) mT_1179 rfl rfl (by decide +kernel) rfl rfl (Nat.le_of_ble_eq_true rfl) d_p15m16_166 (fun H locs w => ?_)
              have w : pd_w G s H locs (pd_up h1091 y (20, .inr (10, [.ref (ad 0), .ref (ad 1), .ref (ad 2), .int (iv 3), .int (iv 4), .int (iv 5), .ref (ad 6), .ref (ad 7), .ref (ad 8), .ref (ad 9), .ref (ad 10), .ref (ad 11), .int (iv 12), .ref (ad 13), .ref (ad 14), .ref (ad 15), .ref (ad 16), .ref (ad 17), .ref (ad 18), .ref (ad 19), .int (iv 20), .ref (ad 21), .ref (ad 22), .ref (ad 23), .ref (ad 24), .ref (ad 25), .ref (ad 26), .ref (ad 27), .ref (ad 28), .int (iv 29), .ref (ad 30), .ref (ad 31), .int (iv 32), .int (iv 33), .int (iv 34), .int (iv 35), .long tl, .int (nI 0), .int (nI (gm_name cs (sA i0) (eA i0))), .int (nI 0), .int (nI (eA i0)), .ref (ad 41), .ref (ad 42), .int (iv 43)]))) := w
              obtain ⟨h1098, u1101⟩ : ∃ z, z = pd_up h1091 y (20, .inr (10, [.ref (ad 0), .ref (ad 1), .ref (ad 2), .int (iv 3), .int (iv 4), .int (iv 5), .ref (ad 6), .ref (ad 7), .ref (ad 8), .ref (ad 9), .ref (ad 10), .ref (ad 11), .int (iv 12), .ref (ad 13), .ref (ad 14), .ref (ad 15), .ref (ad 16), .ref (ad 17), .ref (ad 18), .ref (ad 19), .int (iv 20), .ref (ad 21), .ref (ad 22), .ref (ad 23), .ref (ad 24), .ref (ad 25), .ref (ad 26), .ref (ad 27), .ref (ad 28), .int (iv 29), .ref (ad 30), .ref (ad 31), .int (iv 32), .int (iv 33), .int (iv 34), .int (iv 35), .long tl, .int (nI 0), .int (nI (gm_name cs (sA i0) (eA i0))), .int (nI 0), .int (nI (eA i0)), .ref (ad 41), .ref (ad 42), .int (iv 43)])) := ⟨_, rfl⟩
              rw [← u1101] at w
              have k1099 : pd_kq y h1091 h1098 := by rw [u1101]; exact pd_up_kq
              have f1100 : h1098 y = some (20, .inr (10, [.ref (ad 0), .ref (ad 1), .ref (ad 2), .int (iv 3), .int (iv 4), .int (iv 5), .ref (ad 6), .ref (ad 7), .ref (ad 8), .ref (ad 9), .ref (ad 10), .ref (ad 11), .int (iv 12), .ref (ad 13), .ref (ad 14), .ref (ad 15), .ref (ad 16), .ref (ad 17), .ref (ad 18), .ref (ad 19), .int (iv 20), .ref (ad 21), .ref (ad 22), .ref (ad 23), .ref (ad 24), .ref (ad 25), .ref (ad 26), .ref (ad 27), .ref (ad 28), .int (iv 29), .ref (ad 30), .ref (ad 31), .int (iv 32), .int (iv 33), .int (iv 34), .int (iv 35), .long tl, .int (nI 0), .int (nI (gm_name cs (sA i0) (eA i0))), .int (nI 0), .int (nI (eA i0)), .ref (ad 41), .ref (ad 42), .int (iv 43)])) := by rw [u1101]; exact pd_up_s _ _ _
              have f1102 := k1099 _ _ (pd_ne f1095 f1093 (by simp)) f1095
              have f1103 := k1099 _ _ (pd_ne f1096 f1093 (by simp)) f1096
              have f1104 := k1099 _ _ (pd_ne f1097 f1093 (by simp)) f1097
              refine lv_iload_n hx hb d_p15m16_169 rfl (lv_at hl 0 rfl) ?_
              refine lv_iload_n hx hb d_p15m16_170 rfl (lv_at hl 1 rfl) ?_
              refine pd_jne (tgt := 176) hx hb d_p15m16_171 (by decide) (by omega) (by omega) (fun q1105 => ?_) (fun q1105 => ?_)
              · -- taken: 176
                refine lv_aload_n hx hb d_p15m16_176 rfl (lv_at hl 2 rfl) ?_
                refine pd_get X w f1100 rfl 0 (by decide) mT_1139 rfl rfl d_p15m16_177 ?_
                refine lv_iload_n hx hb d_p15m16_180 rfl (lv_at hl 0 rfl) ?_
                refine pd_iald X w f1102 (by omega) (by omega) d_p15m16_181 ?_
                refine pd_top (v' := .int (nI (cs.getD (gm_name cs (sA i0) (eA i0)) 0))) (congrArg Value.int (hln _ (by omega))) ?_
                have := tx_lt hlc (gm_name cs (sA i0) (eA i0))
                refine lv_bipush (v := nI 46) hx hb d_p15m16_182 (by decide) ?_
                refine pd_jne (tgt := 194) hx hb d_p15m16_184 (by decide) (by omega) (by omega) (fun q1106 => ?_) (fun q1106 => ?_)
                · -- taken: 194
                  refine lv_iconst (v := nI 0) hx hb d_p15m16_194 (by decide) ?_
                  have hpt : gm_pt cs (gm_name cs (sA i0) (eA i0)) (eA i0) = none := by unfold gm_pt; rw [if_neg (by omega), if_pos (by omega)]
                  have hp : gm_pat cs (sA i0) (eA i0) = none := by unfold gm_pat; rw [hph]; simp only [hpt]
                  refine W.eq (g2 := F0 m 195 ls [.int (pd_b false)]) rfl ?_
                  exact pd_zret (v := false) X w ⟨by rw [hp]; rfl, pd_kx.tr (pd_kx.tr (pd_kx.tr (pd_kx.tr (pd_kx.tr (pd_kq.kx (k2) hy0) (pd_kq.kx (k9) f3)) (pd_kq.kx (k1002) f10)) (pd_kq.kx (k1009) f1003)) (pd_kq.kx (k1092) f1010)) (pd_kq.kx (k1099) f1093), (nI 0), (nI (gm_name cs (sA i0) (eA i0))), (nI 0), (nI (eA i0)), (pd_MO.of (fv2 := fv) (iv2 := pd_fu (pd_fu (pd_fu (pd_fu iv 37 (nI 0)) 38 (nI (gm_name cs (sA i0) (eA i0)))) 39 (nI 0)) 40 (nI (eA i0))) (tl2 := tl) (ts := [20]) hMO (pd_kx.tr (pd_kx.tr (pd_kx.tr (pd_kx.tr (pd_kx.tr (pd_kq.kx (k2) hy0) (pd_kq.kx (k9) f3)) (pd_kq.kx (k1002) f10)) (pd_kq.kx (k1009) f1003)) (pd_kq.kx (k1092) f1010)) (pd_kq.kx (k1099) f1093)) f1100 (fun j hj => Or.inr ⟨fun z => by first | (simp at z; done) | (simp at z; omega), rfl⟩)), fun t9 ht9 => by rw [hp] at ht9; cases ht9⟩ (by decide) (by decide) d_p15m16_195
                · -- not taken: 187
                  refine lv_iload_n hx hb d_p15m16_187 rfl (lv_at hl 0 rfl) ?_
                  refine lv_iconst (v := nI 1) hx hb d_p15m16_188 (by decide) ?_
                  refine pd_iadd hx hb d_p15m16_189 ?_
                  refine lv_iload_n hx hb d_p15m16_190 rfl (lv_at hl 1 rfl) ?_
                  refine pd_jne (tgt := 196) hx hb d_p15m16_191 (by decide) (by omega) (by omega) (fun q1107 => ?_) (fun q1107 => ?_)
                  · -- taken: 196
                    refine lv_aload_n hx hb d_p15m16_196 rfl (lv_at hl 2 rfl) ?_
                    refine lv_aload_n hx hb d_p15m16_197 rfl (lv_at hl 2 rfl) ?_
                    refine pd_get X w f1100 rfl 0 (by decide) mT_1139 rfl rfl d_p15m16_198 ?_
                    refine lv_iload_n hx hb d_p15m16_201 rfl (lv_at hl 0 rfl) ?_
                    refine lv_iconst (v := nI 1) hx hb d_p15m16_202 (by decide) ?_
                    refine pd_iadd hx hb d_p15m16_203 ?_
                    refine pd_iald X w f1102 (by omega) (by omega) d_p15m16_204 ?_
                    refine pd_top (v' := .int (nI (cs.getD ((gm_name cs (sA i0) (eA i0)) + 1) 0))) (congrArg Value.int (hln _ (by omega))) ?_
                    have := tx_lt hlc ((gm_name cs (sA i0) (eA i0)) + 1)
                    refine lv_bipush (v := nI 42) hx hb d_p15m16_205 (by decide) ?_
                    refine pd_jne (tgt := 221) hx hb d_p15m16_207 (by decide) (by omega) (by omega) (fun q1108 => ?_) (fun q1108 => ?_)
                    · -- taken: 221
                      refine lv_iconst (v := nI 2) hx hb d_p15m16_221 (by decide) ?_
                      refine pd_put (ty := .int) X w f1100 hz_y rfl 39 (by decide) mT_1178 rfl rfl (by decide +kernel) rfl rfl (Nat.le_of_ble_eq_true rfl) d_p15m16_222 (fun H locs w => ?_)
                      have w : pd_w G s H locs (pd_up h1098 y (20, .inr (10, [.ref (ad 0), .ref (ad 1), .ref (ad 2), .int (iv 3), .int (iv 4), .int (iv 5), .ref (ad 6), .ref (ad 7), .ref (ad 8), .ref (ad 9), .ref (ad 10), .ref (ad 11), .int (iv 12), .ref (ad 13), .ref (ad 14), .ref (ad 15), .ref (ad 16), .ref (ad 17), .ref (ad 18), .ref (ad 19), .int (iv 20), .ref (ad 21), .ref (ad 22), .ref (ad 23), .ref (ad 24), .ref (ad 25), .ref (ad 26), .ref (ad 27), .ref (ad 28), .int (iv 29), .ref (ad 30), .ref (ad 31), .int (iv 32), .int (iv 33), .int (iv 34), .int (iv 35), .long tl, .int (nI 0), .int (nI (gm_name cs (sA i0) (eA i0))), .int (nI 2), .int (nI (eA i0)), .ref (ad 41), .ref (ad 42), .int (iv 43)]))) := w
                      obtain ⟨h1109, u1112⟩ : ∃ z, z = pd_up h1098 y (20, .inr (10, [.ref (ad 0), .ref (ad 1), .ref (ad 2), .int (iv 3), .int (iv 4), .int (iv 5), .ref (ad 6), .ref (ad 7), .ref (ad 8), .ref (ad 9), .ref (ad 10), .ref (ad 11), .int (iv 12), .ref (ad 13), .ref (ad 14), .ref (ad 15), .ref (ad 16), .ref (ad 17), .ref (ad 18), .ref (ad 19), .int (iv 20), .ref (ad 21), .ref (ad 22), .ref (ad 23), .ref (ad 24), .ref (ad 25), .ref (ad 26), .ref (ad 27), .ref (ad 28), .int (iv 29), .ref (ad 30), .ref (ad 31), .int (iv 32), .int (iv 33), .int (iv 34), .int (iv 35), .long tl, .int (nI 0), .int (nI (gm_name cs (sA i0) (eA i0))), .int (nI 2), .int (nI (eA i0)), .ref (ad 41), .ref (ad 42), .int (iv 43)])) := ⟨_, rfl⟩
                      rw [← u1112] at w
                      have k1110 : pd_kq y h1098 h1109 := by rw [u1112]; exact pd_up_kq
                      have f1111 : h1109 y = some (20, .inr (10, [.ref (ad 0), .ref (ad 1), .ref (ad 2), .int (iv 3), .int (iv 4), .int (iv 5), .ref (ad 6), .ref (ad 7), .ref (ad 8), .ref (ad 9), .ref (ad 10), .ref (ad 11), .int (iv 12), .ref (ad 13), .ref (ad 14), .ref (ad 15), .ref (ad 16), .ref (ad 17), .ref (ad 18), .ref (ad 19), .int (iv 20), .ref (ad 21), .ref (ad 22), .ref (ad 23), .ref (ad 24), .ref (ad 25), .ref (ad 26), .ref (ad 27), .ref (ad 28), .int (iv 29), .ref (ad 30), .ref (ad 31), .int (iv 32), .int (iv 33), .int (iv 34), .int (iv 35), .long tl, .int (nI 0), .int (nI (gm_name cs (sA i0) (eA i0))), .int (nI 2), .int (nI (eA i0)), .ref (ad 41), .ref (ad 42), .int (iv 43)])) := by rw [u1112]; exact pd_up_s _ _ _
                      have f1113 := k1110 _ _ (pd_ne f1102 f1100 (by simp)) f1102
                      have f1114 := k1110 _ _ (pd_ne f1103 f1100 (by simp)) f1103
                      have f1115 := k1110 _ _ (pd_ne f1104 f1100 (by simp)) f1104
                      refine lv_aload_n hx hb d_p15m16_225 rfl (lv_at hl 2 rfl) ?_
                      refine lv_iload_n hx hb d_p15m16_226 rfl (lv_at hl 0 rfl) ?_
                      refine lv_iconst (v := nI 1) hx hb d_p15m16_227 (by decide) ?_
                      refine pd_iadd hx hb d_p15m16_228 ?_
                      refine pd_put (ty := .int) X w f1111 hz_y rfl 40 (by decide) mT_1179 rfl rfl (by decide +kernel) rfl rfl (Nat.le_of_ble_eq_true rfl) d_p15m16_229 (fun H locs w => ?_)
                      have w : pd_w G s H locs (pd_up h1109 y (20, .inr (10, [.ref (ad 0), .ref (ad 1), .ref (ad 2), .int (iv 3), .int (iv 4), .int (iv 5), .ref (ad 6), .ref (ad 7), .ref (ad 8), .ref (ad 9), .ref (ad 10), .ref (ad 11), .int (iv 12), .ref (ad 13), .ref (ad 14), .ref (ad 15), .ref (ad 16), .ref (ad 17), .ref (ad 18), .ref (ad 19), .int (iv 20), .ref (ad 21), .ref (ad 22), .ref (ad 23), .ref (ad 24), .ref (ad 25), .ref (ad 26), .ref (ad 27), .ref (ad 28), .int (iv 29), .ref (ad 30), .ref (ad 31), .int (iv 32), .int (iv 33), .int (iv 34), .int (iv 35), .long tl, .int (nI 0), .int (nI (gm_name cs (sA i0) (eA i0))), .int (nI 2), .int (nI ((gm_name cs (sA i0) (eA i0)) + 1)), .ref (ad 41), .ref (ad 42), .int (iv 43)]))) := w
                      obtain ⟨h1116, u1119⟩ : ∃ z, z = pd_up h1109 y (20, .inr (10, [.ref (ad 0), .ref (ad 1), .ref (ad 2), .int (iv 3), .int (iv 4), .int (iv 5), .ref (ad 6), .ref (ad 7), .ref (ad 8), .ref (ad 9), .ref (ad 10), .ref (ad 11), .int (iv 12), .ref (ad 13), .ref (ad 14), .ref (ad 15), .ref (ad 16), .ref (ad 17), .ref (ad 18), .ref (ad 19), .int (iv 20), .ref (ad 21), .ref (ad 22), .ref (ad 23), .ref (ad 24), .ref (ad 25), .ref (ad 26), .ref (ad 27), .ref (ad 28), .int (iv 29), .ref (ad 30), .ref (ad 31), .int (iv 32), .int (iv 33), .int (iv 34), .int (iv 35), .long tl, .int (nI 0), .int (nI (gm_name cs (sA i0) (eA i0))), .int (nI 2), .int (nI ((gm_name cs (sA i0) (eA i0)) + 1)), .ref (ad 41), .ref (ad 42), .int (iv 43)])) := ⟨_, rfl⟩
                      rw [← u1119] at w
                      have k1117 : pd_kq y h1109 h1116 := by rw [u1119]; exact pd_up_kq
                      have f1118 : h1116 y = some (20, .inr (10, [.ref (ad 0), .ref (ad 1), .ref (ad 2), .int (iv 3), .int (iv 4), .int (iv 5), .ref (ad 6), .ref (ad 7), .ref (ad 8), .ref (ad 9), .ref (ad 10), .ref (ad 11), .int (iv 12), .ref (ad 13), .ref (ad 14), .ref (ad 15), .ref (ad 16), .ref (ad 17), .ref (ad 18), .ref (ad 19), .int (iv 20), .ref (ad 21), .ref (ad 22), .ref (ad 23), .ref (ad 24), .ref (ad 25), .ref (ad 26), .ref (ad 27), .ref (ad 28), .int (iv 29), .ref (ad 30), .ref (ad 31), .int (iv 32), .int (iv 33), .int (iv 34), .int (iv 35), .long tl, .int (nI 0), .int (nI (gm_name cs (sA i0) (eA i0))), .int (nI 2), .int (nI ((gm_name cs (sA i0) (eA i0)) + 1)), .ref (ad 41), .ref (ad 42), .int (iv 43)])) := by rw [u1119]; exact pd_up_s _ _ _
                      have f1120 := k1117 _ _ (pd_ne f1113 f1111 (by simp)) f1113
                      have f1121 := k1117 _ _ (pd_ne f1114 f1111 (by simp)) f1114
                      have f1122 := k1117 _ _ (pd_ne f1115 f1111 (by simp)) f1115
                      refine lv_aload_n hx hb d_p15m16_232 rfl (lv_at hl 2 rfl) ?_
                      refine pd_get X w f1118 rfl 39 (by decide) mT_1178 rfl rfl d_p15m16_233 ?_
                      refine lv_iconst (v := nI 1) hx hb d_p15m16_236 (by decide) ?_
                      refine pd_jeq (tgt := 252) hx hb d_p15m16_237 (by decide) (by decide) (by decide) (fun q => absurd q (by decide)) (fun _ => ?_)
                      refine lv_aload_n hx hb d_p15m16_240 rfl (lv_at hl 2 rfl) ?_
                      refine lv_iload_n hx hb d_p15m16_241 rfl (lv_at hl 0 rfl) ?_
                      refine lv_iconst (v := nI 1) hx hb d_p15m16_242 (by decide) ?_
                      refine pd_iadd hx hb d_p15m16_243 ?_
                      refine lv_iload_n hx hb d_p15m16_244 rfl (lv_at hl 1 rfl) ?_
                      refine pd_cV (a := y) (As := [.int (nI ((gm_name cs (sA i0) (eA i0)) + 1)), .int (nI (eA i0))]) (rest := []) X w f1118 rfl (c_PolicyDeskModel_behindPart l G h1116 (ad := ad) (fv := fv) (iv := pd_fu (pd_fu (pd_fu (pd_fu iv 37 (nI 0)) 38 (nI (gm_name cs (sA i0) (eA i0)))) 39 (nI 2)) 40 (nI ((gm_name cs (sA i0) (eA i0)) + 1))) (tl := tl) (pd_MO.of (fv2 := fv) (iv2 := pd_fu (pd_fu (pd_fu (pd_fu iv 37 (nI 0)) 38 (nI (gm_name cs (sA i0) (eA i0)))) 39 (nI 2)) 40 (nI ((gm_name cs (sA i0) (eA i0)) + 1))) (tl2 := tl) (ts := [20]) hMO (pd_kx.tr (pd_kx.tr (pd_kx.tr (pd_kx.tr (pd_kx.tr (pd_kx.tr (pd_kx.tr (pd_kq.kx (k2) hy0) (pd_kq.kx (k9) f3)) (pd_kq.kx (k1002) f10)) (pd_kq.kx (k1009) f1003)) (pd_kq.kx (k1092) f1010)) (pd_kq.kx (k1099) f1093)) (pd_kq.kx (k1110) f1100)) (pd_kq.kx (k1117) f1111)) f1118 (fun j hj => Or.inr ⟨fun z => by first | (simp at z; done) | (simp at z; omega), rfl⟩)) hL (by omega) (by omega)) ok_PolicyDeskModel_behindPart ⟨mT_1315, sT_19⟩ mT_1313 ⟨by decide, by decide⟩ rfl hl.1 rfl (Nat.le_of_ble_eq_true rfl) d_p15m16_245 ⟨by decide, by decide⟩ (fun r1124 h1125 H locs hp1126 w => ?_)
                      refine W.widen (k := 0) (n := 0) (by decide) (by decide) ?_
                      obtain ⟨e1127, rfl⟩ := hp1126
                      have hpl := gm_part_le (cs := cs) (x := gm_name cs (sA i0) (eA i0) + 1) (to := eA i0) (by omega)
                      refine lv_iload_n hx hb d_p15m16_248 rfl (lv_at hl 1 rfl) ?_
                      refine pd_jne (tgt := 256) hx hb d_p15m16_249 (by decide) (by omega) (by omega) (fun q1128 => ?_) (fun q1128 => ?_)
                      · -- taken: 256
                        refine lv_iconst (v := nI 0) hx hb d_p15m16_256 (by decide) ?_
                        have hpt : gm_pt cs (gm_name cs (sA i0) (eA i0)) (eA i0) = none := by unfold gm_pt; rw [if_neg (by omega), if_neg (by omega), if_neg (by omega), if_neg (by rw [← e1127]; omega)]
                        have hp : gm_pat cs (sA i0) (eA i0) = none := by unfold gm_pat; rw [hph]; simp only [hpt]
                        refine W.eq (g2 := F0 m 257 ls [.int (pd_b false)]) rfl ?_
                        exact pd_zret (v := false) X w ⟨by rw [hp]; rfl, pd_kx.tr (pd_kx.tr (pd_kx.tr (pd_kx.tr (pd_kx.tr (pd_kx.tr (pd_kx.tr (pd_kq.kx (k2) hy0) (pd_kq.kx (k9) f3)) (pd_kq.kx (k1002) f10)) (pd_kq.kx (k1009) f1003)) (pd_kq.kx (k1092) f1010)) (pd_kq.kx (k1099) f1093)) (pd_kq.kx (k1110) f1100)) (pd_kq.kx (k1117) f1111), (nI 0), (nI (gm_name cs (sA i0) (eA i0))), (nI 2), (nI ((gm_name cs (sA i0) (eA i0)) + 1)), (pd_MO.of (fv2 := fv) (iv2 := pd_fu (pd_fu (pd_fu (pd_fu iv 37 (nI 0)) 38 (nI (gm_name cs (sA i0) (eA i0)))) 39 (nI 2)) 40 (nI ((gm_name cs (sA i0) (eA i0)) + 1))) (tl2 := tl) (ts := [20]) hMO (pd_kx.tr (pd_kx.tr (pd_kx.tr (pd_kx.tr (pd_kx.tr (pd_kx.tr (pd_kx.tr (pd_kq.kx (k2) hy0) (pd_kq.kx (k9) f3)) (pd_kq.kx (k1002) f10)) (pd_kq.kx (k1009) f1003)) (pd_kq.kx (k1092) f1010)) (pd_kq.kx (k1099) f1093)) (pd_kq.kx (k1110) f1100)) (pd_kq.kx (k1117) f1111)) f1118 (fun j hj => Or.inr ⟨fun z => by first | (simp at z; done) | (simp at z; omega), rfl⟩)), fun t9 ht9 => by rw [hp] at ht9; cases ht9⟩ (by decide) (by decide) d_p15m16_257
                      · -- not taken: 252
                        refine lv_iconst (v := nI 1) hx hb d_p15m16_252 (by decide) ?_
                        refine lv_goto (tgt := 257) hx hb d_p15m16_253 (by decide) ?_
                        have hpt : gm_pt cs (gm_name cs (sA i0) (eA i0)) (eA i0) = some (2, gm_name cs (sA i0) (eA i0) + 1) := by unfold gm_pt; rw [if_neg (by omega), if_neg (by omega), if_neg (by omega), if_pos (by rw [← e1127]; omega)]
                        have hp : gm_pat cs (sA i0) (eA i0) = some (0, gm_name cs (sA i0) (eA i0), 2, gm_name cs (sA i0) (eA i0) + 1) := by unfold gm_pat; rw [hph]; simp only [hpt]
                        refine W.eq (g2 := F0 m 257 ls [.int (pd_b true)]) rfl ?_
                        exact pd_zret (v := true) X w ⟨by rw [hp]; rfl, pd_kx.tr (pd_kx.tr (pd_kx.tr (pd_kx.tr (pd_kx.tr (pd_kx.tr (pd_kx.tr (pd_kq.kx (k2) hy0) (pd_kq.kx (k9) f3)) (pd_kq.kx (k1002) f10)) (pd_kq.kx (k1009) f1003)) (pd_kq.kx (k1092) f1010)) (pd_kq.kx (k1099) f1093)) (pd_kq.kx (k1110) f1100)) (pd_kq.kx (k1117) f1111), (nI 0), (nI (gm_name cs (sA i0) (eA i0))), (nI 2), (nI ((gm_name cs (sA i0) (eA i0)) + 1)), (pd_MO.of (fv2 := fv) (iv2 := pd_fu (pd_fu (pd_fu (pd_fu iv 37 (nI 0)) 38 (nI (gm_name cs (sA i0) (eA i0)))) 39 (nI 2)) 40 (nI ((gm_name cs (sA i0) (eA i0)) + 1))) (tl2 := tl) (ts := [20]) hMO (pd_kx.tr (pd_kx.tr (pd_kx.tr (pd_kx.tr (pd_kx.tr (pd_kx.tr (pd_kx.tr (pd_kq.kx (k2) hy0) (pd_kq.kx (k9) f3)) (pd_kq.kx (k1002) f10)) (pd_kq.kx (k1009) f1003)) (pd_kq.kx (k1092) f1010)) (pd_kq.kx (k1099) f1093)) (pd_kq.kx (k1110) f1100)) (pd_kq.kx (k1117) f1111)) f1118 (fun j hj => Or.inr ⟨fun z => by first | (simp at z; done) | (simp at z; omega), rfl⟩)), fun t9 ht9 => by rw [hp] at ht9; cases ht9; exact ⟨rfl, rfl, rfl, rfl⟩⟩ (by decide) (by decide) d_p15m16_257
                    · -- not taken: 210
                      refine lv_iload_n hx hb d_p15m16_210 rfl (lv_at hl 0 rfl) ?_
                      refine lv_iconst (v := nI 2) hx hb d_p15m16_211 (by decide) ?_
                      refine pd_iadd hx hb d_p15m16_212 ?_
                      refine lv_iload_n hx hb d_p15m16_213 rfl (lv_at hl 1 rfl) ?_
                      refine pd_jne (tgt := 221) hx hb d_p15m16_214 (by decide) (by omega) (by omega) (fun q1129 => ?_) (fun q1129 => ?_)
                      · -- taken: 221
                        refine lv_iconst (v := nI 2) hx hb d_p15m16_221 (by decide) ?_
                        refine pd_put (ty := .int) X w f1100 hz_y rfl 39 (by decide) mT_1178 rfl rfl (by decide +kernel) rfl rfl (Nat.le_of_ble_eq_true rfl) d_p15m16_222 (fun H locs w => ?_)
                        have w : pd_w G s H locs (pd_up h1098 y (20, .inr (10, [.ref (ad 0), .ref (ad 1), .ref (ad 2), .int (iv 3), .int (iv 4), .int (iv 5), .ref (ad 6), .ref (ad 7), .ref (ad 8), .ref (ad 9), .ref (ad 10), .ref (ad 11), .int (iv 12), .ref (ad 13), .ref (ad 14), .ref (ad 15), .ref (ad 16), .ref (ad 17), .ref (ad 18), .ref (ad 19), .int (iv 20), .ref (ad 21), .ref (ad 22), .ref (ad 23), .ref (ad 24), .ref (ad 25), .ref (ad 26), .ref (ad 27), .ref (ad 28), .int (iv 29), .ref (ad 30), .ref (ad 31), .int (iv 32), .int (iv 33), .int (iv 34), .int (iv 35), .long tl, .int (nI 0), .int (nI (gm_name cs (sA i0) (eA i0))), .int (nI 2), .int (nI (eA i0)), .ref (ad 41), .ref (ad 42), .int (iv 43)]))) := w
                        obtain ⟨h1130, u1133⟩ : ∃ z, z = pd_up h1098 y (20, .inr (10, [.ref (ad 0), .ref (ad 1), .ref (ad 2), .int (iv 3), .int (iv 4), .int (iv 5), .ref (ad 6), .ref (ad 7), .ref (ad 8), .ref (ad 9), .ref (ad 10), .ref (ad 11), .int (iv 12), .ref (ad 13), .ref (ad 14), .ref (ad 15), .ref (ad 16), .ref (ad 17), .ref (ad 18), .ref (ad 19), .int (iv 20), .ref (ad 21), .ref (ad 22), .ref (ad 23), .ref (ad 24), .ref (ad 25), .ref (ad 26), .ref (ad 27), .ref (ad 28), .int (iv 29), .ref (ad 30), .ref (ad 31), .int (iv 32), .int (iv 33), .int (iv 34), .int (iv 35), .long tl, .int (nI 0), .int (nI (gm_name cs (sA i0) (eA i0))), .int (nI 2), .int (nI (eA i0)), .ref (ad 41), .ref (ad 42), .int (iv 43)])) := ⟨_, rfl⟩
                        rw [← u1133] at w
                        have k1131 : pd_kq y h1098 h1130 := by rw [u1133]; exact pd_up_kq
                        have f1132 : h1130 y = some (20, .inr (10, [.ref (ad 0), .ref (ad 1), .ref (ad 2), .int (iv 3), .int (iv 4), .int (iv 5), .ref (ad 6), .ref (ad 7), .ref (ad 8), .ref (ad 9), .ref (ad 10), .ref (ad 11), .int (iv 12), .ref (ad 13), .ref (ad 14), .ref (ad 15), .ref (ad 16), .ref (ad 17), .ref (ad 18), .ref (ad 19), .int (iv 20), .ref (ad 21), .ref (ad 22), .ref (ad 23), .ref (ad 24), .ref (ad 25), .ref (ad 26), .ref (ad 27), .ref (ad 28), .int (iv 29), .ref (ad 30), .ref (ad 31), .int (iv 32), .int (iv 33), .int (iv 34), .int (iv 35), .long tl, .int (nI 0), .int (nI (gm_name cs (sA i0) (eA i0))), .int (nI 2), .int (nI (eA i0)), .ref (ad 41), .ref (ad 42), .int (iv 43)])) := by rw [u1133]; exact pd_up_s _ _ _
                        have f1134 := k1131 _ _ (pd_ne f1102 f1100 (by simp)) f1102
                        have f1135 := k1131 _ _ (pd_ne f1103 f1100 (by simp)) f1103
                        have f1136 := k1131 _ _ (pd_ne f1104 f1100 (by simp)) f1104
                        refine lv_aload_n hx hb d_p15m16_225 rfl (lv_at hl 2 rfl) ?_
                        refine lv_iload_n hx hb d_p15m16_226 rfl (lv_at hl 0 rfl) ?_
                        refine lv_iconst (v := nI 1) hx hb d_p15m16_227 (by decide) ?_
                        refine pd_iadd hx hb d_p15m16_228 ?_
                        refine pd_put (ty := .int) X w f1132 hz_y rfl 40 (by decide) mT_1179 rfl rfl (by decide +kernel) rfl rfl (Nat.le_of_ble_eq_true rfl) d_p15m16_229 (fun H locs w => ?_)
                        have w : pd_w G s H locs (pd_up h1130 y (20, .inr (10, [.ref (ad 0), .ref (ad 1), .ref (ad 2), .int (iv 3), .int (iv 4), .int (iv 5), .ref (ad 6), .ref (ad 7), .ref (ad 8), .ref (ad 9), .ref (ad 10), .ref (ad 11), .int (iv 12), .ref (ad 13), .ref (ad 14), .ref (ad 15), .ref (ad 16), .ref (ad 17), .ref (ad 18), .ref (ad 19), .int (iv 20), .ref (ad 21), .ref (ad 22), .ref (ad 23), .ref (ad 24), .ref (ad 25), .ref (ad 26), .ref (ad 27), .ref (ad 28), .int (iv 29), .ref (ad 30), .ref (ad 31), .int (iv 32), .int (iv 33), .int (iv 34), .int (iv 35), .long tl, .int (nI 0), .int (nI (gm_name cs (sA i0) (eA i0))), .int (nI 2), .int (nI ((gm_name cs (sA i0) (eA i0)) + 1)), .ref (ad 41), .ref (ad 42), .int (iv 43)]))) := w
                        obtain ⟨h1137, u1140⟩ : ∃ z, z = pd_up h1130 y (20, .inr (10, [.ref (ad 0), .ref (ad 1), .ref (ad 2), .int (iv 3), .int (iv 4), .int (iv 5), .ref (ad 6), .ref (ad 7), .ref (ad 8), .ref (ad 9), .ref (ad 10), .ref (ad 11), .int (iv 12), .ref (ad 13), .ref (ad 14), .ref (ad 15), .ref (ad 16), .ref (ad 17), .ref (ad 18), .ref (ad 19), .int (iv 20), .ref (ad 21), .ref (ad 22), .ref (ad 23), .ref (ad 24), .ref (ad 25), .ref (ad 26), .ref (ad 27), .ref (ad 28), .int (iv 29), .ref (ad 30), .ref (ad 31), .int (iv 32), .int (iv 33), .int (iv 34), .int (iv 35), .long tl, .int (nI 0), .int (nI (gm_name cs (sA i0) (eA i0))), .int (nI 2), .int (nI ((gm_name cs (sA i0) (eA i0)) + 1)), .ref (ad 41), .ref (ad 42), .int (iv 43)])) := ⟨_, rfl⟩
                        rw [← u1140] at w
                        have k1138 : pd_kq y h1130 h1137 := by rw [u1140]; exact pd_up_kq
                        have f1139 : h1137 y = some (20, .inr (10, [.ref (ad 0), .ref (ad 1), .ref (ad 2), .int (iv 3), .int (iv 4), .int (iv 5), .ref (ad 6), .ref (ad 7), .ref (ad 8), .ref (ad 9), .ref (ad 10), .ref (ad 11), .int (iv 12), .ref (ad 13), .ref (ad 14), .ref (ad 15), .ref (ad 16), .ref (ad 17), .ref (ad 18), .ref (ad 19), .int (iv 20), .ref (ad 21), .ref (ad 22), .ref (ad 23), .ref (ad 24), .ref (ad 25), .ref (ad 26), .ref (ad 27), .ref (ad 28), .int (iv 29), .ref (ad 30), .ref (ad 31), .int (iv 32), .int (iv 33), .int (iv 34), .int (iv 35), .long tl, .int (nI 0), .int (nI (gm_name cs (sA i0) (eA i0))), .int (nI 2), .int (nI ((gm_name cs (sA i0) (eA i0)) + 1)), .ref (ad 41), .ref (ad 42), .int (iv 43)])) := by rw [u1140]; exact pd_up_s _ _ _
                        have f1141 := k1138 _ _ (pd_ne f1134 f1132 (by simp)) f1134
                        have f1142 := k1138 _ _ (pd_ne f1135 f1132 (by simp)) f1135
                        have f1143 := k1138 _ _ (pd_ne f1136 f1132 (by simp)) f1136
                        refine lv_aload_n hx hb d_p15m16_232 rfl (lv_at hl 2 rfl) ?_
                        refine pd_get X w f1139 rfl 39 (by decide) mT_1178 rfl rfl d_p15m16_233 ?_
                        refine lv_iconst (v := nI 1) hx hb d_p15m16_236 (by decide) ?_
                        refine pd_jeq (tgt := 252) hx hb d_p15m16_237 (by decide) (by decide) (by decide) (fun q => absurd q (by decide)) (fun _ => ?_)
                        refine lv_aload_n hx hb d_p15m16_240 rfl (lv_at hl 2 rfl) ?_
                        refine lv_iload_n hx hb d_p15m16_241 rfl (lv_at hl 0 rfl) ?_
                        refine lv_iconst (v := nI 1) hx hb d_p15m16_242 (by decide) ?_
                        refine pd_iadd hx hb d_p15m16_243 ?_
                        refine lv_iload_n hx hb d_p15m16_244 rfl (lv_at hl 1 rfl) ?_
                        refine pd_cV (a := y) (As := [.int (nI ((gm_name cs (sA i0) (eA i0)) + 1)), .int (nI (eA i0))]) (rest := []) X w f1139 rfl (c_PolicyDeskModel_behindPart l G h1137 (ad := ad) (fv := fv) (iv := pd_fu (pd_fu (pd_fu (pd_fu iv 37 (nI 0)) 38 (nI (gm_name cs (sA i0) (eA i0)))) 39 (nI 2)) 40 (nI ((gm_name cs (sA i0) (eA i0)) + 1))) (tl := tl) (pd_MO.of (fv2 := fv) (iv2 := pd_fu (pd_fu (pd_fu (pd_fu iv 37 (nI 0)) 38 (nI (gm_name cs (sA i0) (eA i0)))) 39 (nI 2)) 40 (nI ((gm_name cs (sA i0) (eA i0)) + 1))) (tl2 := tl) (ts := [20]) hMO (pd_kx.tr (pd_kx.tr (pd_kx.tr (pd_kx.tr (pd_kx.tr (pd_kx.tr (pd_kx.tr (pd_kq.kx (k2) hy0) (pd_kq.kx (k9) f3)) (pd_kq.kx (k1002) f10)) (pd_kq.kx (k1009) f1003)) (pd_kq.kx (k1092) f1010)) (pd_kq.kx (k1099) f1093)) (pd_kq.kx (k1131) f1100)) (pd_kq.kx (k1138) f1132)) f1139 (fun j hj => Or.inr ⟨fun z => by first | (simp at z; done) | (simp at z; omega), rfl⟩)) hL (by omega) (by omega)) ok_PolicyDeskModel_behindPart ⟨mT_1315, sT_19⟩ mT_1313 ⟨by decide, by decide⟩ rfl hl.1 rfl (Nat.le_of_ble_eq_true rfl) d_p15m16_245 ⟨by decide, by decide⟩ (fun r1145 h1146 H locs hp1147 w => ?_)
                        refine W.widen (k := 0) (n := 0) (by decide) (by decide) ?_
                        obtain ⟨e1148, rfl⟩ := hp1147
                        have hpl := gm_part_le (cs := cs) (x := gm_name cs (sA i0) (eA i0) + 1) (to := eA i0) (by omega)
                        refine lv_iload_n hx hb d_p15m16_248 rfl (lv_at hl 1 rfl) ?_
                        refine pd_jne (tgt := 256) hx hb d_p15m16_249 (by decide) (by omega) (by omega) (fun q1149 => ?_) (fun q1149 => ?_)
                        · -- taken: 256
                          refine lv_iconst (v := nI 0) hx hb d_p15m16_256 (by decide) ?_
                          have hpt : gm_pt cs (gm_name cs (sA i0) (eA i0)) (eA i0) = none := by unfold gm_pt; rw [if_neg (by omega), if_neg (by omega), if_neg (by omega), if_neg (by rw [← e1148]; omega)]
                          have hp : gm_pat cs (sA i0) (eA i0) = none := by unfold gm_pat; rw [hph]; simp only [hpt]
                          refine W.eq (g2 := F0 m 257 ls [.int (pd_b false)]) rfl ?_
                          exact pd_zret (v := false) X w ⟨by rw [hp]; rfl, pd_kx.tr (pd_kx.tr (pd_kx.tr (pd_kx.tr (pd_kx.tr (pd_kx.tr (pd_kx.tr (pd_kq.kx (k2) hy0) (pd_kq.kx (k9) f3)) (pd_kq.kx (k1002) f10)) (pd_kq.kx (k1009) f1003)) (pd_kq.kx (k1092) f1010)) (pd_kq.kx (k1099) f1093)) (pd_kq.kx (k1131) f1100)) (pd_kq.kx (k1138) f1132), (nI 0), (nI (gm_name cs (sA i0) (eA i0))), (nI 2), (nI ((gm_name cs (sA i0) (eA i0)) + 1)), (pd_MO.of (fv2 := fv) (iv2 := pd_fu (pd_fu (pd_fu (pd_fu iv 37 (nI 0)) 38 (nI (gm_name cs (sA i0) (eA i0)))) 39 (nI 2)) 40 (nI ((gm_name cs (sA i0) (eA i0)) + 1))) (tl2 := tl) (ts := [20]) hMO (pd_kx.tr (pd_kx.tr (pd_kx.tr (pd_kx.tr (pd_kx.tr (pd_kx.tr (pd_kx.tr (pd_kq.kx (k2) hy0) (pd_kq.kx (k9) f3)) (pd_kq.kx (k1002) f10)) (pd_kq.kx (k1009) f1003)) (pd_kq.kx (k1092) f1010)) (pd_kq.kx (k1099) f1093)) (pd_kq.kx (k1131) f1100)) (pd_kq.kx (k1138) f1132)) f1139 (fun j hj => Or.inr ⟨fun z => by first | (simp at z; done) | (simp at z; omega), rfl⟩)), fun t9 ht9 => by rw [hp] at ht9; cases ht9⟩ (by decide) (by decide) d_p15m16_257
                        · -- not taken: 252
                          refine lv_iconst (v := nI 1) hx hb d_p15m16_252 (by decide) ?_
                          refine lv_goto (tgt := 257) hx hb d_p15m16_253 (by decide) ?_
                          have hpt : gm_pt cs (gm_name cs (sA i0) (eA i0)) (eA i0) = some (2, gm_name cs (sA i0) (eA i0) + 1) := by unfold gm_pt; rw [if_neg (by omega), if_neg (by omega), if_neg (by omega), if_pos (by rw [← e1148]; omega)]
                          have hp : gm_pat cs (sA i0) (eA i0) = some (0, gm_name cs (sA i0) (eA i0), 2, gm_name cs (sA i0) (eA i0) + 1) := by unfold gm_pat; rw [hph]; simp only [hpt]
                          refine W.eq (g2 := F0 m 257 ls [.int (pd_b true)]) rfl ?_
                          exact pd_zret (v := true) X w ⟨by rw [hp]; rfl, pd_kx.tr (pd_kx.tr (pd_kx.tr (pd_kx.tr (pd_kx.tr (pd_kx.tr (pd_kx.tr (pd_kq.kx (k2) hy0) (pd_kq.kx (k9) f3)) (pd_kq.kx (k1002) f10)) (pd_kq.kx (k1009) f1003)) (pd_kq.kx (k1092) f1010)) (pd_kq.kx (k1099) f1093)) (pd_kq.kx (k1131) f1100)) (pd_kq.kx (k1138) f1132), (nI 0), (nI (gm_name cs (sA i0) (eA i0))), (nI 2), (nI ((gm_name cs (sA i0) (eA i0)) + 1)), (pd_MO.of (fv2 := fv) (iv2 := pd_fu (pd_fu (pd_fu (pd_fu iv 37 (nI 0)) 38 (nI (gm_name cs (sA i0) (eA i0)))) 39 (nI 2)) 40 (nI ((gm_name cs (sA i0) (eA i0)) + 1))) (tl2 := tl) (ts := [20]) hMO (pd_kx.tr (pd_kx.tr (pd_kx.tr (pd_kx.tr (pd_kx.tr (pd_kx.tr (pd_kx.tr (pd_kq.kx (k2) hy0) (pd_kq.kx (k9) f3)) (pd_kq.kx (k1002) f10)) (pd_kq.kx (k1009) f1003)) (pd_kq.kx (k1092) f1010)) (pd_kq.kx (k1099) f1093)) (pd_kq.kx (k1131) f1100)) (pd_kq.kx (k1138) f1132)) f1139 (fun j hj => Or.inr ⟨fun z => by first | (simp at z; done) | (simp at z; omega), rfl⟩)), fun t9 ht9 => by rw [hp] at ht9; cases ht9; exact ⟨rfl, rfl, rfl, rfl⟩⟩ (by decide) (by decide) d_p15m16_257
                      · -- not taken: 217
                        refine lv_iconst (v := nI 1) hx hb d_p15m16_217 (by decide) ?_
                        refine lv_goto (tgt := 222) hx hb d_p15m16_218 (by decide) ?_
                        refine pd_put (ty := .int) X w f1100 hz_y rfl 39 (by decide) mT_1178 rfl rfl (by decide +kernel) rfl rfl (Nat.le_of_ble_eq_true rfl) d_p15m16_222 (fun H locs w => ?_)
                        have w : pd_w G s H locs (pd_up h1098 y (20, .inr (10, [.ref (ad 0), .ref (ad 1), .ref (ad 2), .int (iv 3), .int (iv 4), .int (iv 5), .ref (ad 6), .ref (ad 7), .ref (ad 8), .ref (ad 9), .ref (ad 10), .ref (ad 11), .int (iv 12), .ref (ad 13), .ref (ad 14), .ref (ad 15), .ref (ad 16), .ref (ad 17), .ref (ad 18), .ref (ad 19), .int (iv 20), .ref (ad 21), .ref (ad 22), .ref (ad 23), .ref (ad 24), .ref (ad 25), .ref (ad 26), .ref (ad 27), .ref (ad 28), .int (iv 29), .ref (ad 30), .ref (ad 31), .int (iv 32), .int (iv 33), .int (iv 34), .int (iv 35), .long tl, .int (nI 0), .int (nI (gm_name cs (sA i0) (eA i0))), .int (nI 1), .int (nI (eA i0)), .ref (ad 41), .ref (ad 42), .int (iv 43)]))) := w
                        obtain ⟨h1150, u1153⟩ : ∃ z, z = pd_up h1098 y (20, .inr (10, [.ref (ad 0), .ref (ad 1), .ref (ad 2), .int (iv 3), .int (iv 4), .int (iv 5), .ref (ad 6), .ref (ad 7), .ref (ad 8), .ref (ad 9), .ref (ad 10), .ref (ad 11), .int (iv 12), .ref (ad 13), .ref (ad 14), .ref (ad 15), .ref (ad 16), .ref (ad 17), .ref (ad 18), .ref (ad 19), .int (iv 20), .ref (ad 21), .ref (ad 22), .ref (ad 23), .ref (ad 24), .ref (ad 25), .ref (ad 26), .ref (ad 27), .ref (ad 28), .int (iv 29), .ref (ad 30), .ref (ad 31), .int (iv 32), .int (iv 33), .int (iv 34), .int (iv 35), .long tl, .int (nI 0), .int (nI (gm_name cs (sA i0) (eA i0))), .int (nI 1), .int (nI (eA i0)), .ref (ad 41), .ref (ad 42), .int (iv 43)])) := ⟨_, rfl⟩
                        rw [← u1153] at w
                        have k1151 : pd_kq y h1098 h1150 := by rw [u1153]; exact pd_up_kq
                        have f1152 : h1150 y = some (20, .inr (10, [.ref (ad 0), .ref (ad 1), .ref (ad 2), .int (iv 3), .int (iv 4), .int (iv 5), .ref (ad 6), .ref (ad 7), .ref (ad 8), .ref (ad 9), .ref (ad 10), .ref (ad 11), .int (iv 12), .ref (ad 13), .ref (ad 14), .ref (ad 15), .ref (ad 16), .ref (ad 17), .ref (ad 18), .ref (ad 19), .int (iv 20), .ref (ad 21), .ref (ad 22), .ref (ad 23), .ref (ad 24), .ref (ad 25), .ref (ad 26), .ref (ad 27), .ref (ad 28), .int (iv 29), .ref (ad 30), .ref (ad 31), .int (iv 32), .int (iv 33), .int (iv 34), .int (iv 35), .long tl, .int (nI 0), .int (nI (gm_name cs (sA i0) (eA i0))), .int (nI 1), .int (nI (eA i0)), .ref (ad 41), .ref (ad 42), .int (iv 43)])) := by rw [u1153]; exact pd_up_s _ _ _
                        have f1154 := k1151 _ _ (pd_ne f1102 f1100 (by simp)) f1102
                        have f1155 := k1151 _ _ (pd_ne f1103 f1100 (by simp)) f1103
                        have f1156 := k1151 _ _ (pd_ne f1104 f1100 (by simp)) f1104
                        refine lv_aload_n hx hb d_p15m16_225 rfl (lv_at hl 2 rfl) ?_
                        refine lv_iload_n hx hb d_p15m16_226 rfl (lv_at hl 0 rfl) ?_
                        refine lv_iconst (v := nI 1) hx hb d_p15m16_227 (by decide) ?_
                        refine pd_iadd hx hb d_p15m16_228 ?_
                        refine pd_put (ty := .int) X w f1152 hz_y rfl 40 (by decide) mT_1179 rfl rfl (by decide +kernel) rfl rfl (Nat.le_of_ble_eq_true rfl) d_p15m16_229 (fun H locs w => ?_)
                        have w : pd_w G s H locs (pd_up h1150 y (20, .inr (10, [.ref (ad 0), .ref (ad 1), .ref (ad 2), .int (iv 3), .int (iv 4), .int (iv 5), .ref (ad 6), .ref (ad 7), .ref (ad 8), .ref (ad 9), .ref (ad 10), .ref (ad 11), .int (iv 12), .ref (ad 13), .ref (ad 14), .ref (ad 15), .ref (ad 16), .ref (ad 17), .ref (ad 18), .ref (ad 19), .int (iv 20), .ref (ad 21), .ref (ad 22), .ref (ad 23), .ref (ad 24), .ref (ad 25), .ref (ad 26), .ref (ad 27), .ref (ad 28), .int (iv 29), .ref (ad 30), .ref (ad 31), .int (iv 32), .int (iv 33), .int (iv 34), .int (iv 35), .long tl, .int (nI 0), .int (nI (gm_name cs (sA i0) (eA i0))), .int (nI 1), .int (nI ((gm_name cs (sA i0) (eA i0)) + 1)), .ref (ad 41), .ref (ad 42), .int (iv 43)]))) := w
                        obtain ⟨h1157, u1160⟩ : ∃ z, z = pd_up h1150 y (20, .inr (10, [.ref (ad 0), .ref (ad 1), .ref (ad 2), .int (iv 3), .int (iv 4), .int (iv 5), .ref (ad 6), .ref (ad 7), .ref (ad 8), .ref (ad 9), .ref (ad 10), .ref (ad 11), .int (iv 12), .ref (ad 13), .ref (ad 14), .ref (ad 15), .ref (ad 16), .ref (ad 17), .ref (ad 18), .ref (ad 19), .int (iv 20), .ref (ad 21), .ref (ad 22), .ref (ad 23), .ref (ad 24), .ref (ad 25), .ref (ad 26), .ref (ad 27), .ref (ad 28), .int (iv 29), .ref (ad 30), .ref (ad 31), .int (iv 32), .int (iv 33), .int (iv 34), .int (iv 35), .long tl, .int (nI 0), .int (nI (gm_name cs (sA i0) (eA i0))), .int (nI 1), .int (nI ((gm_name cs (sA i0) (eA i0)) + 1)), .ref (ad 41), .ref (ad 42), .int (iv 43)])) := ⟨_, rfl⟩
                        rw [← u1160] at w
                        have k1158 : pd_kq y h1150 h1157 := by rw [u1160]; exact pd_up_kq
                        have f1159 : h1157 y = some (20, .inr (10, [.ref (ad 0), .ref (ad 1), .ref (ad 2), .int (iv 3), .int (iv 4), .int (iv 5), .ref (ad 6), .ref (ad 7), .ref (ad 8), .ref (ad 9), .ref (ad 10), .ref (ad 11), .int (iv 12), .ref (ad 13), .ref (ad 14), .ref (ad 15), .ref (ad 16), .ref (ad 17), .ref (ad 18), .ref (ad 19), .int (iv 20), .ref (ad 21), .ref (ad 22), .ref (ad 23), .ref (ad 24), .ref (ad 25), .ref (ad 26), .ref (ad 27), .ref (ad 28), .int (iv 29), .ref (ad 30), .ref (ad 31), .int (iv 32), .int (iv 33), .int (iv 34), .int (iv 35), .long tl, .int (nI 0), .int (nI (gm_name cs (sA i0) (eA i0))), .int (nI 1), .int (nI ((gm_name cs (sA i0) (eA i0)) + 1)), .ref (ad 41), .ref (ad 42), .int (iv 43)])) := by rw [u1160]; exact pd_up_s _ _ _
                        have f1161 := k1158 _ _ (pd_ne f1154 f1152 (by simp)) f1154
                        have f1162 := k1158 _ _ (pd_ne f1155 f1152 (by simp)) f1155
                        have f1163 := k1158 _ _ (pd_ne f1156 f1152 (by simp)) f1156
                        refine lv_aload_n hx hb d_p15m16_232 rfl (lv_at hl 2 rfl) ?_
                        refine pd_get X w f1159 rfl 39 (by decide) mT_1178 rfl rfl d_p15m16_233 ?_
                        refine lv_iconst (v := nI 1) hx hb d_p15m16_236 (by decide) ?_
                        refine pd_jeq (tgt := 252) hx hb d_p15m16_237 (by decide) (by decide) (by decide) (fun _ => ?_) (fun q => absurd q (by decide))
                        refine lv_iconst (v := nI 1) hx hb d_p15m16_252 (by decide) ?_
                        refine lv_goto (tgt := 257) hx hb d_p15m16_253 (by decide) ?_
                        have hpt : gm_pt cs (gm_name cs (sA i0) (eA i0)) (eA i0) = some (1, gm_name cs (sA i0) (eA i0) + 1) := by unfold gm_pt; rw [if_neg (by omega), if_neg (by omega), if_pos (by omega)]
                        have hp : gm_pat cs (sA i0) (eA i0) = some (0, gm_name cs (sA i0) (eA i0), 1, gm_name cs (sA i0) (eA i0) + 1) := by unfold gm_pat; rw [hph]; simp only [hpt]
                        refine W.eq (g2 := F0 m 257 ls [.int (pd_b true)]) rfl ?_
                        exact pd_zret (v := true) X w ⟨by rw [hp]; rfl, pd_kx.tr (pd_kx.tr (pd_kx.tr (pd_kx.tr (pd_kx.tr (pd_kx.tr (pd_kx.tr (pd_kq.kx (k2) hy0) (pd_kq.kx (k9) f3)) (pd_kq.kx (k1002) f10)) (pd_kq.kx (k1009) f1003)) (pd_kq.kx (k1092) f1010)) (pd_kq.kx (k1099) f1093)) (pd_kq.kx (k1151) f1100)) (pd_kq.kx (k1158) f1152), (nI 0), (nI (gm_name cs (sA i0) (eA i0))), (nI 1), (nI ((gm_name cs (sA i0) (eA i0)) + 1)), (pd_MO.of (fv2 := fv) (iv2 := pd_fu (pd_fu (pd_fu (pd_fu iv 37 (nI 0)) 38 (nI (gm_name cs (sA i0) (eA i0)))) 39 (nI 1)) 40 (nI ((gm_name cs (sA i0) (eA i0)) + 1))) (tl2 := tl) (ts := [20]) hMO (pd_kx.tr (pd_kx.tr (pd_kx.tr (pd_kx.tr (pd_kx.tr (pd_kx.tr (pd_kx.tr (pd_kq.kx (k2) hy0) (pd_kq.kx (k9) f3)) (pd_kq.kx (k1002) f10)) (pd_kq.kx (k1009) f1003)) (pd_kq.kx (k1092) f1010)) (pd_kq.kx (k1099) f1093)) (pd_kq.kx (k1151) f1100)) (pd_kq.kx (k1158) f1152)) f1159 (fun j hj => Or.inr ⟨fun z => by first | (simp at z; done) | (simp at z; omega), rfl⟩)), fun t9 ht9 => by rw [hp] at ht9; cases ht9; exact ⟨rfl, rfl, rfl, rfl⟩⟩ (by decide) (by decide) d_p15m16_257
                  · -- not taken: 194
                    refine lv_iconst (v := nI 0) hx hb d_p15m16_194 (by decide) ?_
                    have hpt : gm_pt cs (gm_name cs (sA i0) (eA i0)) (eA i0) = none := by unfold gm_pt; rw [if_neg (by omega), if_pos (by omega)]
                    have hp : gm_pat cs (sA i0) (eA i0) = none := by unfold gm_pat; rw [hph]; simp only [hpt]
                    refine W.eq (g2 := F0 m 195 ls [.int (pd_b false)]) rfl ?_
                    exact pd_zret (v := false) X w ⟨by rw [hp]; rfl, pd_kx.tr (pd_kx.tr (pd_kx.tr (pd_kx.tr (pd_kx.tr (pd_kq.kx (k2) hy0) (pd_kq.kx (k9) f3)) (pd_kq.kx (k1002) f10)) (pd_kq.kx (k1009) f1003)) (pd_kq.kx (k1092) f1010)) (pd_kq.kx (k1099) f1093), (nI 0), (nI (gm_name cs (sA i0) (eA i0))), (nI 0), (nI (eA i0)), (pd_MO.of (fv2 := fv) (iv2 := pd_fu (pd_fu (pd_fu (pd_fu iv 37 (nI 0)) 38 (nI (gm_name cs (sA i0) (eA i0)))) 39 (nI 0)) 40 (nI (eA i0))) (tl2 := tl) (ts := [20]) hMO (pd_kx.tr (pd_kx.tr (pd_kx.tr (pd_kx.tr (pd_kx.tr (pd_kq.kx (k2) hy0) (pd_kq.kx (k9) f3)) (pd_kq.kx (k1002) f10)) (pd_kq.kx (k1009) f1003)) (pd_kq.kx (k1092) f1010)) (pd_kq.kx (k1099) f1093)) f1100 (fun j hj => Or.inr ⟨fun z => by first | (simp at z; done) | (simp at z; omega), rfl⟩)), fun t9 ht9 => by rw [hp] at ht9; cases ht9⟩ (by decide) (by decide) d_p15m16_195
              · -- not taken: 174
                refine lv_iconst (v := nI 1) hx hb d_p15m16_174 (by decide) ?_
                have hpt : gm_pt cs (gm_name cs (sA i0) (eA i0)) (eA i0) = some (0, eA i0) := by unfold gm_pt; rw [if_pos (by omega)]
                have hp : gm_pat cs (sA i0) (eA i0) = some (0, gm_name cs (sA i0) (eA i0), 0, eA i0) := by unfold gm_pat; rw [hph]; simp only [hpt]
                refine W.eq (g2 := F0 m 175 ls [.int (pd_b true)]) rfl ?_
                exact pd_zret (v := true) X w ⟨by rw [hp]; rfl, pd_kx.tr (pd_kx.tr (pd_kx.tr (pd_kx.tr (pd_kx.tr (pd_kq.kx (k2) hy0) (pd_kq.kx (k9) f3)) (pd_kq.kx (k1002) f10)) (pd_kq.kx (k1009) f1003)) (pd_kq.kx (k1092) f1010)) (pd_kq.kx (k1099) f1093), (nI 0), (nI (gm_name cs (sA i0) (eA i0))), (nI 0), (nI (eA i0)), (pd_MO.of (fv2 := fv) (iv2 := pd_fu (pd_fu (pd_fu (pd_fu iv 37 (nI 0)) 38 (nI (gm_name cs (sA i0) (eA i0)))) 39 (nI 0)) 40 (nI (eA i0))) (tl2 := tl) (ts := [20]) hMO (pd_kx.tr (pd_kx.tr (pd_kx.tr (pd_kx.tr (pd_kx.tr (pd_kq.kx (k2) hy0) (pd_kq.kx (k9) f3)) (pd_kq.kx (k1002) f10)) (pd_kq.kx (k1009) f1003)) (pd_kq.kx (k1092) f1010)) (pd_kq.kx (k1099) f1093)) f1100 (fun j hj => Or.inr ⟨fun z => by first | (simp at z; done) | (simp at z; omega), rfl⟩)), fun t9 ht9 => by rw [hp] at ht9; cases ht9; exact ⟨rfl, rfl, rfl, rfl⟩⟩ (by decide) (by decide) d_p15m16_175
            · -- not taken: 108
              refine lv_aload_n hx hb d_p15m16_108 rfl (lv_at hl 2 rfl) ?_
              refine pd_get X w f1010 rfl 0 (by decide) mT_1139 rfl rfl d_p15m16_109 ?_
              refine lv_iload_n hx hb d_p15m16_112 rfl (lv_at hl 0 rfl) ?_
              refine lv_iconst (v := nI 1) hx hb d_p15m16_113 (by decide) ?_
              refine pd_iadd hx hb d_p15m16_114 ?_
              refine pd_iald X w f1012 (by omega) (by omega) d_p15m16_115 ?_
              refine pd_top (v' := .int (nI (cs.getD ((gm_name cs (sA i0) (eA i0)) + 1) 0))) (congrArg Value.int (hln _ (by omega))) ?_
              have := tx_lt hlc ((gm_name cs (sA i0) (eA i0)) + 1)
              refine lv_bipush (v := nI 42) hx hb d_p15m16_116 (by decide) ?_
              refine pd_jne (tgt := 159) hx hb d_p15m16_118 (by decide) (by omega) (by omega) (fun q1165 => ?_) (fun q1165 => ?_)
              · -- taken: 159
                have hph : gm_ph cs (sA i0) (eA i0) = some (0, gm_name cs (sA i0) (eA i0), gm_name cs (sA i0) (eA i0)) := by unfold gm_ph; rw [if_neg (by omega), if_neg (by omega), if_neg (by omega)]
                refine lv_aload_n hx hb d_p15m16_159 rfl (lv_at hl 2 rfl) ?_
                refine lv_iconst (v := nI 0) hx hb d_p15m16_160 (by decide) ?_
                refine pd_put (ty := .int) X w f1010 hz_y rfl 39 (by decide) mT_1178 rfl rfl (by decide +kernel) rfl rfl (Nat.le_of_ble_eq_true rfl) d_p15m16_161 (fun H locs w => ?_)
                have w : pd_w G s H locs (pd_up h1008 y (20, .inr (10, [.ref (ad 0), .ref (ad 1), .ref (ad 2), .int (iv 3), .int (iv 4), .int (iv 5), .ref (ad 6), .ref (ad 7), .ref (ad 8), .ref (ad 9), .ref (ad 10), .ref (ad 11), .int (iv 12), .ref (ad 13), .ref (ad 14), .ref (ad 15), .ref (ad 16), .ref (ad 17), .ref (ad 18), .ref (ad 19), .int (iv 20), .ref (ad 21), .ref (ad 22), .ref (ad 23), .ref (ad 24), .ref (ad 25), .ref (ad 26), .ref (ad 27), .ref (ad 28), .int (iv 29), .ref (ad 30), .ref (ad 31), .int (iv 32), .int (iv 33), .int (iv 34), .int (iv 35), .long tl, .int (nI 0), .int (nI (gm_name cs (sA i0) (eA i0))), .int (nI 0), .int (iv 40), .ref (ad 41), .ref (ad 42), .int (iv 43)]))) := w
                obtain ⟨h1166, u1169⟩ : ∃ z, z = pd_up h1008 y (20, .inr (10, [.ref (ad 0), .ref (ad 1), .ref (ad 2), .int (iv 3), .int (iv 4), .int (iv 5), .ref (ad 6), .ref (ad 7), .ref (ad 8), .ref (ad 9), .ref (ad 10), .ref (ad 11), .int (iv 12), .ref (ad 13), .ref (ad 14), .ref (ad 15), .ref (ad 16), .ref (ad 17), .ref (ad 18), .ref (ad 19), .int (iv 20), .ref (ad 21), .ref (ad 22), .ref (ad 23), .ref (ad 24), .ref (ad 25), .ref (ad 26), .ref (ad 27), .ref (ad 28), .int (iv 29), .ref (ad 30), .ref (ad 31), .int (iv 32), .int (iv 33), .int (iv 34), .int (iv 35), .long tl, .int (nI 0), .int (nI (gm_name cs (sA i0) (eA i0))), .int (nI 0), .int (iv 40), .ref (ad 41), .ref (ad 42), .int (iv 43)])) := ⟨_, rfl⟩
                rw [← u1169] at w
                have k1167 : pd_kq y h1008 h1166 := by rw [u1169]; exact pd_up_kq
                have f1168 : h1166 y = some (20, .inr (10, [.ref (ad 0), .ref (ad 1), .ref (ad 2), .int (iv 3), .int (iv 4), .int (iv 5), .ref (ad 6), .ref (ad 7), .ref (ad 8), .ref (ad 9), .ref (ad 10), .ref (ad 11), .int (iv 12), .ref (ad 13), .ref (ad 14), .ref (ad 15), .ref (ad 16), .ref (ad 17), .ref (ad 18), .ref (ad 19), .int (iv 20), .ref (ad 21), .ref (ad 22), .ref (ad 23), .ref (ad 24), .ref (ad 25), .ref (ad 26), .ref (ad 27), .ref (ad 28), .int (iv 29), .ref (ad 30), .ref (ad 31), .int (iv 32), .int (iv 33), .int (iv 34), .int (iv 35), .long tl, .int (nI 0), .int (nI (gm_name cs (sA i0) (eA i0))), .int (nI 0), .int (iv 40), .ref (ad 41), .ref (ad 42), .int (iv 43)])) := by rw [u1169]; exact pd_up_s _ _ _
                have f1170 := k1167 _ _ (pd_ne f1012 f1010 (by simp)) f1012
                have f1171 := k1167 _ _ (pd_ne f1013 f1010 (by simp)) f1013
                have f1172 := k1167 _ _ (pd_ne f1014 f1010 (by simp)) f1014
                refine lv_aload_n hx hb d_p15m16_164 rfl (lv_at hl 2 rfl) ?_
                refine lv_iload_n hx hb d_p15m16_165 rfl (lv_at hl 1 rfl) ?_
                refine pd_put (ty := .int) X w f1168 hz_y rfl 40 (by decide) mT_1179 rfl rfl (by decide +kernel) rfl rfl (Nat.le_of_ble_eq_true rfl) d_p15m16_166 (fun H locs w => ?_)
                have w : pd_w G s H locs (pd_up h1166 y (20, .inr (10, [.ref (ad 0), .ref (ad 1), .ref (ad 2), .int (iv 3), .int (iv 4), .int (iv 5), .ref (ad 6), .ref (ad 7), .ref (ad 8), .ref (ad 9), .ref (ad 10), .ref (ad 11), .int (iv 12), .ref (ad 13), .ref (ad 14), .ref (ad 15), .ref (ad 16), .ref (ad 17), .ref (ad 18), .ref (ad 19), .int (iv 20), .ref (ad 21), .ref (ad 22), .ref (ad 23), .ref (ad 24), .ref (ad 25), .ref (ad 26), .ref (ad 27), .ref (ad 28), .int (iv 29), .ref (ad 30), .ref (ad 31), .int (iv 32), .int (iv 33), .int (iv 34), .int (iv 35), .long tl, .int (nI 0), .int (nI (gm_name cs (sA i0) (eA i0))), .int (nI 0), .int (nI (eA i0)), .ref (ad 41), .ref (ad 42), .int (iv 43)]))) := w
                obtain ⟨h1173, u1176⟩ : ∃ z, z = pd_up h1166 y (20, .inr (10, [.ref (ad 0), .ref (ad 1), .ref (ad 2), .int (iv 3), .int (iv 4), .int (iv 5), .ref (ad 6), .ref (ad 7), .ref (ad 8), .ref (ad 9), .ref (ad 10), .ref (ad 11), .int (iv 12), .ref (ad 13), .ref (ad 14), .ref (ad 15), .ref (ad 16), .ref (ad 17), .ref (ad 18), .ref (ad 19), .int (iv 20), .ref (ad 21), .ref (ad 22), .ref (ad 23), .ref (ad 24), .ref (ad 25), .ref (ad 26), .ref (ad 27), .ref (ad 28), .int (iv 29), .ref (ad 30), .ref (ad 31), .int (iv 32), .int (iv 33), .int (iv 34), .int (iv 35), .long tl, .int (nI 0), .int (nI (gm_name cs (sA i0) (eA i0))), .int (nI 0), .int (nI (eA i0)), .ref (ad 41), .ref (ad 42), .int (iv 43)])) := ⟨_, rfl⟩
                rw [← u1176] at w
                have k1174 : pd_kq y h1166 h1173 := by rw [u1176]; exact pd_up_kq
                have f1175 : h1173 y = some (20, .inr (10, [.ref (ad 0), .ref (ad 1), .ref (ad 2), .int (iv 3), .int (iv 4), .int (iv 5), .ref (ad 6), .ref (ad 7), .ref (ad 8), .ref (ad 9), .ref (ad 10), .ref (ad 11), .int (iv 12), .ref (ad 13), .ref (ad 14), .ref (ad 15), .ref (ad 16), .ref (ad 17), .ref (ad 18), .ref (ad 19), .int (iv 20), .ref (ad 21), .ref (ad 22), .ref (ad 23), .ref (ad 24), .ref (ad 25), .ref (ad 26), .ref (ad 27), .ref (ad 28), .int (iv 29), .ref (ad 30), .ref (ad 31), .int (iv 32), .int (iv 33), .int (iv 34), .int (iv 35), .long tl, .int (nI 0), .int (nI (gm_name cs (sA i0) (eA i0))), .int (nI 0), .int (nI (eA i0)), .ref (ad 41), .ref (ad 42), .int (iv 43)])) := by rw [u1176]; exact pd_up_s _ _ _
                have f1177 := k1174 _ _ (pd_ne f1170 f1168 (by simp)) f1170
                have f1178 := k1174 _ _ (pd_ne f1171 f1168 (by simp)) f1171
                have f1179 := k1174 _ _ (pd_ne f1172 f1168 (by simp)) f1172
                refine lv_iload_n hx hb d_p15m16_169 rfl (lv_at hl 0 rfl) ?_
                refine lv_iload_n hx hb d_p15m16_170 rfl (lv_at hl 1 rfl) ?_
                refine pd_jne (tgt := 176) hx hb d_p15m16_171 (by decide) (by omega) (by omega) (fun q1180 => ?_) (fun q1180 => ?_)
                · -- taken: 176
                  refine lv_aload_n hx hb d_p15m16_176 rfl (lv_at hl 2 rfl) ?_
                  refine pd_get X w f1175 rfl 0 (by decide) mT_1139 rfl rfl d_p15m16_177 ?_
                  refine lv_iload_n hx hb d_p15m16_180 rfl (lv_at hl 0 rfl) ?_
                  refine pd_iald X w f1177 (by omega) (by omega) d_p15m16_181 ?_
                  refine pd_top (v' := .int (nI (cs.getD (gm_name cs (sA i0) (eA i0)) 0))) (congrArg Value.int (hln _ (by omega))) ?_
                  have := tx_lt hlc (gm_name cs (sA i0) (eA i0))
                  refine lv_bipush (v := nI 46) hx hb d_p15m16_182 (by decide) ?_
                  refine pd_jne (tgt := 194) hx hb d_p15m16_184 (by decide) (by omega) (by omega) (fun q1181 => ?_) (fun q1181 => ?_)
                  · -- taken: 194
                    refine lv_iconst (v := nI 0) hx hb d_p15m16_194 (by decide) ?_
                    have hpt : gm_pt cs (gm_name cs (sA i0) (eA i0)) (eA i0) = none := by unfold gm_pt; rw [if_neg (by omega), if_pos (by omega)]
                    have hp : gm_pat cs (sA i0) (eA i0) = none := by unfold gm_pat; rw [hph]; simp only [hpt]
                    refine W.eq (g2 := F0 m 195 ls [.int (pd_b false)]) rfl ?_
                    exact pd_zret (v := false) X w ⟨by rw [hp]; rfl, pd_kx.tr (pd_kx.tr (pd_kx.tr (pd_kx.tr (pd_kx.tr (pd_kq.kx (k2) hy0) (pd_kq.kx (k9) f3)) (pd_kq.kx (k1002) f10)) (pd_kq.kx (k1009) f1003)) (pd_kq.kx (k1167) f1010)) (pd_kq.kx (k1174) f1168), (nI 0), (nI (gm_name cs (sA i0) (eA i0))), (nI 0), (nI (eA i0)), (pd_MO.of (fv2 := fv) (iv2 := pd_fu (pd_fu (pd_fu (pd_fu iv 37 (nI 0)) 38 (nI (gm_name cs (sA i0) (eA i0)))) 39 (nI 0)) 40 (nI (eA i0))) (tl2 := tl) (ts := [20]) hMO (pd_kx.tr (pd_kx.tr (pd_kx.tr (pd_kx.tr (pd_kx.tr (pd_kq.kx (k2) hy0) (pd_kq.kx (k9) f3)) (pd_kq.kx (k1002) f10)) (pd_kq.kx (k1009) f1003)) (pd_kq.kx (k1167) f1010)) (pd_kq.kx (k1174) f1168)) f1175 (fun j hj => Or.inr ⟨fun z => by first | (simp at z; done) | (simp at z; omega), rfl⟩)), fun t9 ht9 => by rw [hp] at ht9; cases ht9⟩ (by decide) (by decide) d_p15m16_195
                  · -- not taken: 187
                    refine lv_iload_n hx hb d_p15m16_187 rfl (lv_at hl 0 rfl) ?_
                    refine lv_iconst (v := nI 1) hx hb d_p15m16_188 (by decide) ?_
                    refine pd_iadd hx hb d_p15m16_189 ?_
                    refine lv_iload_n hx hb d_p15m16_190 rfl (lv_at hl 1 rfl) ?_
                    refine pd_jne (tgt := 196) hx hb d_p15m16_191 (by decide) (by omega) (by omega) (fun q1182 => ?_) (fun q1182 => ?_)
                    · -- taken: 196
                      refine lv_aload_n hx hb d_p15m16_196 rfl (lv_at hl 2 rfl) ?_
                      refine lv_aload_n hx hb d_p15m16_197 rfl (lv_at hl 2 rfl) ?_
                      refine pd_get X w f1175 rfl 0 (by decide) mT_1139 rfl rfl d_p15m16_198 ?_
                      refine lv_iload_n hx hb d_p15m16_201 rfl (lv_at hl 0 rfl) ?_
                      refine lv_iconst (v := nI 1) hx hb d_p15m16_202 (by decide) ?_
                      refine pd_iadd hx hb d_p15m16_203 ?_
                      refine pd_iald X w f1177 (by omega) (by omega) d_p15m16_204 ?_
                      refine pd_top (v' := .int (nI (cs.getD ((gm_name cs (sA i0) (eA i0)) + 1) 0))) (congrArg Value.int (hln _ (by omega))) ?_
                      have := tx_lt hlc ((gm_name cs (sA i0) (eA i0)) + 1)
                      refine lv_bipush (v := nI 42) hx hb d_p15m16_205 (by decide) ?_
                      refine pd_jne (tgt := 221) hx hb d_p15m16_207 (by decide) (by omega) (by omega) (fun q1183 => ?_) (fun q1183 => ?_)
                      · -- taken: 221
                        refine lv_iconst (v := nI 2) hx hb d_p15m16_221 (by decide) ?_
                        refine pd_put (ty := .int) X w f1175 hz_y rfl 39 (by decide) mT_1178 rfl rfl (by decide +kernel) rfl rfl (Nat.le_of_ble_eq_true rfl) d_p15m16_222 (fun H locs w => ?_)
                        have w : pd_w G s H locs (pd_up h1173 y (20, .inr (10, [.ref (ad 0), .ref (ad 1), .ref (ad 2), .int (iv 3), .int (iv 4), .int (iv 5), .ref (ad 6), .ref (ad 7), .ref (ad 8), .ref (ad 9), .ref (ad 10), .ref (ad 11), .int (iv 12), .ref (ad 13), .ref (ad 14), .ref (ad 15), .ref (ad 16), .ref (ad 17), .ref (ad 18), .ref (ad 19), .int (iv 20), .ref (ad 21), .ref (ad 22), .ref (ad 23), .ref (ad 24), .ref (ad 25), .ref (ad 26), .ref (ad 27), .ref (ad 28), .int (iv 29), .ref (ad 30), .ref (ad 31), .int (iv 32), .int (iv 33), .int (iv 34), .int (iv 35), .long tl, .int (nI 0), .int (nI (gm_name cs (sA i0) (eA i0))), .int (nI 2), .int (nI (eA i0)), .ref (ad 41), .ref (ad 42), .int (iv 43)]))) := w
                        obtain ⟨h1184, u1187⟩ : ∃ z, z = pd_up h1173 y (20, .inr (10, [.ref (ad 0), .ref (ad 1), .ref (ad 2), .int (iv 3), .int (iv 4), .int (iv 5), .ref (ad 6), .ref (ad 7), .ref (ad 8), .ref (ad 9), .ref (ad 10), .ref (ad 11), .int (iv 12), .ref (ad 13), .ref (ad 14), .ref (ad 15), .ref (ad 16), .ref (ad 17), .ref (ad 18), .ref (ad 19), .int (iv 20), .ref (ad 21), .ref (ad 22), .ref (ad 23), .ref (ad 24), .ref (ad 25), .ref (ad 26), .ref (ad 27), .ref (ad 28), .int (iv 29), .ref (ad 30), .ref (ad 31), .int (iv 32), .int (iv 33), .int (iv 34), .int (iv 35), .long tl, .int (nI 0), .int (nI (gm_name cs (sA i0) (eA i0))), .int (nI 2), .int (nI (eA i0)), .ref (ad 41), .ref (ad 42), .int (iv 43)])) := ⟨_, rfl⟩
                        rw [← u1187] at w
                        have k1185 : pd_kq y h1173 h1184 := by rw [u1187]; exact pd_up_kq
                        have f1186 : h1184 y = some (20, .inr (10, [.ref (ad 0), .ref (ad 1), .ref (ad 2), .int (iv 3), .int (iv 4), .int (iv 5), .ref (ad 6), .ref (ad 7), .ref (ad 8), .ref (ad 9), .ref (ad 10), .ref (ad 11), .int (iv 12), .ref (ad 13), .ref (ad 14), .ref (ad 15), .ref (ad 16), .ref (ad 17), .ref (ad 18), .ref (ad 19), .int (iv 20), .ref (ad 21), .ref (ad 22), .ref (ad 23), .ref (ad 24), .ref (ad 25), .ref (ad 26), .ref (ad 27), .ref (ad 28), .int (iv 29), .ref (ad 30), .ref (ad 31), .int (iv 32), .int (iv 33), .int (iv 34), .int (iv 35), .long tl, .int (nI 0), .int (nI (gm_name cs (sA i0) (eA i0))), .int (nI 2), .int (nI (eA i0)), .ref (ad 41), .ref (ad 42), .int (iv 43)])) := by rw [u1187]; exact pd_up_s _ _ _
                        have f1188 := k1185 _ _ (pd_ne f1177 f1175 (by simp)) f1177
                        have f1189 := k1185 _ _ (pd_ne f1178 f1175 (by simp)) f1178
                        have f1190 := k1185 _ _ (pd_ne f1179 f1175 (by simp)) f1179
                        refine lv_aload_n hx hb d_p15m16_225 rfl (lv_at hl 2 rfl) ?_
                        refine lv_iload_n hx hb d_p15m16_226 rfl (lv_at hl 0 rfl) ?_
                        refine lv_iconst (v := nI 1) hx hb d_p15m16_227 (by decide) ?_
                        refine pd_iadd hx hb d_p15m16_228 ?_
                        refine pd_put (ty := .int) X w f1186 hz_y rfl 40 (by decide) mT_1179 rfl rfl (by decide +kernel) rfl rfl (Nat.le_of_ble_eq_true rfl) d_p15m16_229 (fun H locs w => ?_)
                        have w : pd_w G s H locs (pd_up h1184 y (20, .inr (10, [.ref (ad 0), .ref (ad 1), .ref (ad 2), .int (iv 3), .int (iv 4), .int (iv 5), .ref (ad 6), .ref (ad 7), .ref (ad 8), .ref (ad 9), .ref (ad 10), .ref (ad 11), .int (iv 12), .ref (ad 13), .ref (ad 14), .ref (ad 15), .ref (ad 16), .ref (ad 17), .ref (ad 18), .ref (ad 19), .int (iv 20), .ref (ad 21), .ref (ad 22), .ref (ad 23), .ref (ad 24), .ref (ad 25), .ref (ad 26), .ref (ad 27), .ref (ad 28), .int (iv 29), .ref (ad 30), .ref (ad 31), .int (iv 32), .int (iv 33), .int (iv 34), .int (iv 35), .long tl, .int (nI 0), .int (nI (gm_name cs (sA i0) (eA i0))), .int (nI 2), .int (nI ((gm_name cs (sA i0) (eA i0)) + 1)), .ref (ad 41), .ref (ad 42), .int (iv 43)]))) := w
                        obtain ⟨h1191, u1194⟩ : ∃ z, z = pd_up h1184 y (20, .inr (10, [.ref (ad 0), .ref (ad 1), .ref (ad 2), .int (iv 3), .int (iv 4), .int (iv 5), .ref (ad 6), .ref (ad 7), .ref (ad 8), .ref (ad 9), .ref (ad 10), .ref (ad 11), .int (iv 12), .ref (ad 13), .ref (ad 14), .ref (ad 15), .ref (ad 16), .ref (ad 17), .ref (ad 18), .ref (ad 19), .int (iv 20), .ref (ad 21), .ref (ad 22), .ref (ad 23), .ref (ad 24), .ref (ad 25), .ref (ad 26), .ref (ad 27), .ref (ad 28), .int (iv 29), .ref (ad 30), .ref (ad 31), .int (iv 32), .int (iv 33), .int (iv 34), .int (iv 35), .long tl, .int (nI 0), .int (nI (gm_name cs (sA i0) (eA i0))), .int (nI 2), .int (nI ((gm_name cs (sA i0) (eA i0)) + 1)), .ref (ad 41), .ref (ad 42), .int (iv 43)])) := ⟨_, rfl⟩
                        rw [← u1194] at w
                        have k1192 : pd_kq y h1184 h1191 := by rw [u1194]; exact pd_up_kq
                        have f1193 : h1191 y = some (20, .inr (10, [.ref (ad 0), .ref (ad 1), .ref (ad 2), .int (iv 3), .int (iv 4), .int (iv 5), .ref (ad 6), .ref (ad 7), .ref (ad 8), .ref (ad 9), .ref (ad 10), .ref (ad 11), .int (iv 12), .ref (ad 13), .ref (ad 14), .ref (ad 15), .ref (ad 16), .ref (ad 17), .ref (ad 18), .ref (ad 19), .int (iv 20), .ref (ad 21), .ref (ad 22), .ref (ad 23), .ref (ad 24), .ref (ad 25), .ref (ad 26), .ref (ad 27), .ref (ad 28), .int (iv 29), .ref (ad 30), .ref (ad 31), .int (iv 32), .int (iv 33), .int (iv 34), .int (iv 35), .long tl, .int (nI 0), .int (nI (gm_name cs (sA i0) (eA i0))), .int (nI 2), .int (nI ((gm_name cs (sA i0) (eA i0)) + 1)), .ref (ad 41), .ref (ad 42), .int (iv 43)])) := by rw [u1194]; exact pd_up_s _ _ _
                        have f1195 := k1192 _ _ (pd_ne f1188 f1186 (by simp)) f1188
                        have f1196 := k1192 _ _ (pd_ne f1189 f1186 (by simp)) f1189
                        have f1197 := k1192 _ _ (pd_ne f1190 f1186 (by simp)) f1190
                        refine lv_aload_n hx hb d_p15m16_232 rfl (lv_at hl 2 rfl) ?_
                        refine pd_get X w f1193 rfl 39 (by decide) mT_1178 rfl rfl d_p15m16_233 ?_
                        refine lv_iconst (v := nI 1) hx hb d_p15m16_236 (by decide) ?_
                        refine pd_jeq (tgt := 252) hx hb d_p15m16_237 (by decide) (by decide) (by decide) (fun q => absurd q (by decide)) (fun _ => ?_)
                        refine lv_aload_n hx hb d_p15m16_240 rfl (lv_at hl 2 rfl) ?_
                        refine lv_iload_n hx hb d_p15m16_241 rfl (lv_at hl 0 rfl) ?_
                        refine lv_iconst (v := nI 1) hx hb d_p15m16_242 (by decide) ?_
                        refine pd_iadd hx hb d_p15m16_243 ?_
                        refine lv_iload_n hx hb d_p15m16_244 rfl (lv_at hl 1 rfl) ?_
                        refine pd_cV (a := y) (As := [.int (nI ((gm_name cs (sA i0) (eA i0)) + 1)), .int (nI (eA i0))]) (rest := []) X w f1193 rfl (c_PolicyDeskModel_behindPart l G h1191 (ad := ad) (fv := fv) (iv := pd_fu (pd_fu (pd_fu (pd_fu iv 37 (nI 0)) 38 (nI (gm_name cs (sA i0) (eA i0)))) 39 (nI 2)) 40 (nI ((gm_name cs (sA i0) (eA i0)) + 1))) (tl := tl) (pd_MO.of (fv2 := fv) (iv2 := pd_fu (pd_fu (pd_fu (pd_fu iv 37 (nI 0)) 38 (nI (gm_name cs (sA i0) (eA i0)))) 39 (nI 2)) 40 (nI ((gm_name cs (sA i0) (eA i0)) + 1))) (tl2 := tl) (ts := [20]) hMO (pd_kx.tr (pd_kx.tr (pd_kx.tr (pd_kx.tr (pd_kx.tr (pd_kx.tr (pd_kx.tr (pd_kq.kx (k2) hy0) (pd_kq.kx (k9) f3)) (pd_kq.kx (k1002) f10)) (pd_kq.kx (k1009) f1003)) (pd_kq.kx (k1167) f1010)) (pd_kq.kx (k1174) f1168)) (pd_kq.kx (k1185) f1175)) (pd_kq.kx (k1192) f1186)) f1193 (fun j hj => Or.inr ⟨fun z => by first | (simp at z; done) | (simp at z; omega), rfl⟩)) hL (by omega) (by omega)) ok_PolicyDeskModel_behindPart ⟨mT_1315, sT_19⟩ mT_1313 ⟨by decide, by decide⟩ rfl hl.1 rfl (Nat.le_of_ble_eq_true rfl) d_p15m16_245 ⟨by decide, by decide⟩ (fun r1199 h1200 H locs hp1201 w => ?_)
                        refine W.widen (k := 0) (n := 0) (by decide) (by decide) ?_
                        obtain ⟨e1202, rfl⟩ := hp1201
                        have hpl := gm_part_le (cs := cs) (x := gm_name cs (sA i0) (eA i0) + 1) (to := eA i0) (by omega)
                        refine lv_iload_n hx hb d_p15m16_248 rfl (lv_at hl 1 rfl) ?_
                        refine pd_jne (tgt := 256) hx hb d_p15m16_249 (by decide) (by omega) (by omega) (fun q1203 => ?_) (fun q1203 => ?_)
                        · -- taken: 256
                          refine lv_iconst (v := nI 0) hx hb d_p15m16_256 (by decide) ?_
                          have hpt : gm_pt cs (gm_name cs (sA i0) (eA i0)) (eA i0) = none := by unfold gm_pt; rw [if_neg (by omega), if_neg (by omega), if_neg (by omega), if_neg (by rw [← e1202]; omega)]
                          have hp : gm_pat cs (sA i0) (eA i0) = none := by unfold gm_pat; rw [hph]; simp only [hpt]
                          refine W.eq (g2 := F0 m 257 ls [.int (pd_b false)]) rfl ?_
                          exact pd_zret (v := false) X w ⟨by rw [hp]; rfl, pd_kx.tr (pd_kx.tr (pd_kx.tr (pd_kx.tr (pd_kx.tr (pd_kx.tr (pd_kx.tr (pd_kq.kx (k2) hy0) (pd_kq.kx (k9) f3)) (pd_kq.kx (k1002) f10)) (pd_kq.kx (k1009) f1003)) (pd_kq.kx (k1167) f1010)) (pd_kq.kx (k1174) f1168)) (pd_kq.kx (k1185) f1175)) (pd_kq.kx (k1192) f1186), (nI 0), (nI (gm_name cs (sA i0) (eA i0))), (nI 2), (nI ((gm_name cs (sA i0) (eA i0)) + 1)), (pd_MO.of (fv2 := fv) (iv2 := pd_fu (pd_fu (pd_fu (pd_fu iv 37 (nI 0)) 38 (nI (gm_name cs (sA i0) (eA i0)))) 39 (nI 2)) 40 (nI ((gm_name cs (sA i0) (eA i0)) + 1))) (tl2 := tl) (ts := [20]) hMO (pd_kx.tr (pd_kx.tr (pd_kx.tr (pd_kx.tr (pd_kx.tr (pd_kx.tr (pd_kx.tr (pd_kq.kx (k2) hy0) (pd_kq.kx (k9) f3)) (pd_kq.kx (k1002) f10)) (pd_kq.kx (k1009) f1003)) (pd_kq.kx (k1167) f1010)) (pd_kq.kx (k1174) f1168)) (pd_kq.kx (k1185) f1175)) (pd_kq.kx (k1192) f1186)) f1193 (fun j hj => Or.inr ⟨fun z => by first | (simp at z; done) | (simp at z; omega), rfl⟩)), fun t9 ht9 => by rw [hp] at ht9; cases ht9⟩ (by decide) (by decide) d_p15m16_257
                        · -- not taken: 252
                          refine lv_iconst (v := nI 1) hx hb d_p15m16_252 (by decide) ?_
                          refine lv_goto (tgt := 257) hx hb d_p15m16_253 (by decide) ?_
                          have hpt : gm_pt cs (gm_name cs (sA i0) (eA i0)) (eA i0) = some (2, gm_name cs (sA i0) (eA i0) + 1) := by unfold gm_pt; rw [if_neg (by omega), if_neg (by omega), if_neg (by omega), if_pos (by rw [← e1202]; omega)]
                          have hp : gm_pat cs (sA i0) (eA i0) = some (0, gm_name cs (sA i0) (eA i0), 2, gm_name cs (sA i0) (eA i0) + 1) := by unfold gm_pat; rw [hph]; simp only [hpt]
                          refine W.eq (g2 := F0 m 257 ls [.int (pd_b true)]) rfl ?_
                          exact pd_zret (v := true) X w ⟨by rw [hp]; rfl, pd_kx.tr (pd_kx.tr (pd_kx.tr (pd_kx.tr (pd_kx.tr (pd_kx.tr (pd_kx.tr (pd_kq.kx (k2) hy0) (pd_kq.kx (k9) f3)) (pd_kq.kx (k1002) f10)) (pd_kq.kx (k1009) f1003)) (pd_kq.kx (k1167) f1010)) (pd_kq.kx (k1174) f1168)) (pd_kq.kx (k1185) f1175)) (pd_kq.kx (k1192) f1186), (nI 0), (nI (gm_name cs (sA i0) (eA i0))), (nI 2), (nI ((gm_name cs (sA i0) (eA i0)) + 1)), (pd_MO.of (fv2 := fv) (iv2 := pd_fu (pd_fu (pd_fu (pd_fu iv 37 (nI 0)) 38 (nI (gm_name cs (sA i0) (eA i0)))) 39 (nI 2)) 40 (nI ((gm_name cs (sA i0) (eA i0)) + 1))) (tl2 := tl) (ts := [20]) hMO (pd_kx.tr (pd_kx.tr (pd_kx.tr (pd_kx.tr (pd_kx.tr (pd_kx.tr (pd_kx.tr (pd_kq.kx (k2) hy0) (pd_kq.kx (k9) f3)) (pd_kq.kx (k1002) f10)) (pd_kq.kx (k1009) f1003)) (pd_kq.kx (k1167) f1010)) (pd_kq.kx (k1174) f1168)) (pd_kq.kx (k1185) f1175)) (pd_kq.kx (k1192) f1186)) f1193 (fun j hj => Or.inr ⟨fun z => by first | (simp at z; done) | (simp at z; omega), rfl⟩)), fun t9 ht9 => by rw [hp] at ht9; cases ht9; exact ⟨rfl, rfl, rfl, rfl⟩⟩ (by decide) (by decide) d_p15m16_257
                      · -- not taken: 210
                        refine lv_iload_n hx hb d_p15m16_210 rfl (lv_at hl 0 rfl) ?_
                        refine lv_iconst (v := nI 2) hx hb d_p15m16_211 (by decide) ?_
                        refine pd_iadd hx hb d_p15m16_212 ?_
                        refine lv_iload_n hx hb d_p15m16_213 rfl (lv_at hl 1 rfl) ?_
                        refine pd_jne (tgt := 221) hx hb d_p15m16_214 (by decide) (by omega) (by omega) (fun q1204 => ?_) (fun q1204 => ?_)
                        · -- taken: 221
                          refine lv_iconst (v := nI 2) hx hb d_p15m16_221 (by decide) ?_
                          refine pd_put (ty := .int) X w f1175 hz_y rfl 39 (by decide) mT_1178 rfl rfl (by decide +kernel) rfl rfl (Nat.le_of_ble_eq_true rfl) d_p15m16_222 (fun H locs w => ?_)
                          have w : pd_w G s H locs (pd_up h1173 y (20, .inr (10, [.ref (ad 0), .ref (ad 1), .ref (ad 2), .int (iv 3), .int (iv 4), .int (iv 5), .ref (ad 6), .ref (ad 7), .ref (ad 8), .ref (ad 9), .ref (ad 10), .ref (ad 11), .int (iv 12), .ref (ad 13), .ref (ad 14), .ref (ad 15), .ref (ad 16), .ref (ad 17), .ref (ad 18), .ref (ad 19), .int (iv 20), .ref (ad 21), .ref (ad 22), .ref (ad 23), .ref (ad 24), .ref (ad 25), .ref (ad 26), .ref (ad 27), .ref (ad 28), .int (iv 29), .ref (ad 30), .ref (ad 31), .int (iv 32), .int (iv 33), .int (iv 34), .int (iv 35), .long tl, .int (nI 0), .int (nI (gm_name cs (sA i0) (eA i0))), .int (nI 2), .int (nI (eA i0)), .ref (ad 41), .ref (ad 42), .int (iv 43)]))) := w
                          obtain ⟨h1205, u1208⟩ : ∃ z, z = pd_up h1173 y (20, .inr (10, [.ref (ad 0), .ref (ad 1), .ref (ad 2), .int (iv 3), .int (iv 4), .int (iv 5), .ref (ad 6), .ref (ad 7), .ref (ad 8), .ref (ad 9), .ref (ad 10), .ref (ad 11), .int (iv 12), .ref (ad 13), .ref (ad 14), .ref (ad 15), .ref (ad 16), .ref (ad 17), .ref (ad 18), .ref (ad 19), .int (iv 20), .ref (ad 21), .ref (ad 22), .ref (ad 23), .ref (ad 24), .ref (ad 25), .ref (ad 26), .ref (ad 27), .ref (ad 28), .int (iv 29), .ref (ad 30), .ref (ad 31), .int (iv 32), .int (iv 33), .int (iv 34), .int (iv 35), .long tl, .int (nI 0), .int (nI (gm_name cs (sA i0) (eA i0))), .int (nI 2), .int (nI (eA i0)), .ref (ad 41), .ref (ad 42), .int (iv 43)])) := ⟨_, rfl⟩
                          rw [← u1208] at w
                          have k1206 : pd_kq y h1173 h1205 := by rw [u1208]; exact pd_up_kq
                          have f1207 : h1205 y = some (20, .inr (10, [.ref (ad 0), .ref (ad 1), .ref (ad 2), .int (iv 3), .int (iv 4), .int (iv 5), .ref (ad 6), .ref (ad 7), .ref (ad 8), .ref (ad 9), .ref (ad 10), .ref (ad 11), .int (iv 12), .ref (ad 13), .ref (ad 14), .ref (ad 15), .ref (ad 16), .ref (ad 17), .ref (ad 18), .ref (ad 19), .int (iv 20), .ref (ad 21), .ref (ad 22), .ref (ad 23), .ref (ad 24), .ref (ad 25), .ref (ad 26), .ref (ad 27), .ref (ad 28), .int (iv 29), .ref (ad 30), .ref (ad 31), .int (iv 32), .int (iv 33), .int (iv 34), .int (iv 35), .long tl, .int (nI 0), .int (nI (gm_name cs (sA i0) (eA i0))), .int (nI 2), .int (nI (eA i0)), .ref (ad 41), .ref (ad 42), .int (iv 43)])) := by rw [u1208]; exact pd_up_s _ _ _
                          have f1209 := k1206 _ _ (pd_ne f1177 f1175 (by simp)) f1177
                          have f1210 := k1206 _ _ (pd_ne f1178 f1175 (by simp)) f1178
                          have f1211 := k1206 _ _ (pd_ne f1179 f1175 (by simp)) f1179
                          refine lv_aload_n hx hb d_p15m16_225 rfl (lv_at hl 2 rfl) ?_
                          refine lv_iload_n hx hb d_p15m16_226 rfl (lv_at hl 0 rfl) ?_
                          refine lv_iconst (v := nI 1) hx hb d_p15m16_227 (by decide) ?_
                          refine pd_iadd hx hb d_p15m16_228 ?_
                          refine pd_put (ty := .int) X w f1207 hz_y rfl 40 (by decide) mT_1179 rfl rfl (by decide +kernel) rfl rfl (Nat.le_of_ble_eq_true rfl) d_p15m16_229 (fun H locs w => ?_)
                          have w : pd_w G s H locs (pd_up h1205 y (20, .inr (10, [.ref (ad 0), .ref (ad 1), .ref (ad 2), .int (iv 3), .int (iv 4), .int (iv 5), .ref (ad 6), .ref (ad 7), .ref (ad 8), .ref (ad 9), .ref (ad 10), .ref (ad 11), .int (iv 12), .ref (ad 13), .ref (ad 14), .ref (ad 15), .ref (ad 16), .ref (ad 17), .ref (ad 18), .ref (ad 19), .int (iv 20), .ref (ad 21), .ref (ad 22), .ref (ad 23), .ref (ad 24), .ref (ad 25), .ref (ad 26), .ref (ad 27), .ref (ad 28), .int (iv 29), .ref (ad 30), .ref (ad 31), .int (iv 32), .int (iv 33), .int (iv 34), .int (iv 35), .long tl, .int (nI 0), .int (nI (gm_name cs (sA i0) (eA i0))), .int (nI 2), .int (nI ((gm_name cs (sA i0) (eA i0)) + 1)), .ref (ad 41), .ref (ad 42), .int (iv 43)]))) := w
                          obtain ⟨h1212, u1215⟩ : ∃ z, z = pd_up h1205 y (20, .inr (10, [.ref (ad 0), .ref (ad 1), .ref (ad 2), .int (iv 3), .int (iv 4), .int (iv 5), .ref (ad 6), .ref (ad 7), .ref (ad 8), .ref (ad 9), .ref (ad 10), .ref (ad 11), .int (iv 12), .ref (ad 13), .ref (ad 14), .ref (ad 15), .ref (ad 16), .ref (ad 17), .ref (ad 18), .ref (ad 19), .int (iv 20), .ref (ad 21), .ref (ad 22), .ref (ad 23), .ref (ad 24), .ref (ad 25), .ref (ad 26), .ref (ad 27), .ref (ad 28), .int (iv 29), .ref (ad 30), .ref (ad 31), .int (iv 32), .int (iv 33), .int (iv 34), .int (iv 35), .long tl, .int (nI 0), .int (nI (gm_name cs (sA i0) (eA i0))), .int (nI 2), .int (nI ((gm_name cs (sA i0) (eA i0)) + 1)), .ref (ad 41), .ref (ad 42), .int (iv 43)])) := ⟨_, rfl⟩
                          rw [← u1215] at w
                          have k1213 : pd_kq y h1205 h1212 := by rw [u1215]; exact pd_up_kq
                          have f1214 : h1212 y = some (20, .inr (10, [.ref (ad 0), .ref (ad 1), .ref (ad 2), .int (iv 3), .int (iv 4), .int (iv 5), .ref (ad 6), .ref (ad 7), .ref (ad 8), .ref (ad 9), .ref (ad 10), .ref (ad 11), .int (iv 12), .ref (ad 13), .ref (ad 14), .ref (ad 15), .ref (ad 16), .ref (ad 17), .ref (ad 18), .ref (ad 19), .int (iv 20), .ref (ad 21), .ref (ad 22), .ref (ad 23), .ref (ad 24), .ref (ad 25), .ref (ad 26), .ref (ad 27), .ref (ad 28), .int (iv 29), .ref (ad 30), .ref (ad 31), .int (iv 32), .int (iv 33), .int (iv 34), .int (iv 35), .long tl, .int (nI 0), .int (nI (gm_name cs (sA i0) (eA i0))), .int (nI 2), .int (nI ((gm_name cs (sA i0) (eA i0)) + 1)), .ref (ad 41), .ref (ad 42), .int (iv 43)])) := by rw [u1215]; exact pd_up_s _ _ _
                          have f1216 := k1213 _ _ (pd_ne f1209 f1207 (by simp)) f1209
                          have f1217 := k1213 _ _ (pd_ne f1210 f1207 (by simp)) f1210
                          have f1218 := k1213 _ _ (pd_ne f1211 f1207 (by simp)) f1211
                          refine lv_aload_n hx hb d_p15m16_232 rfl (lv_at hl 2 rfl) ?_
                          refine pd_get X w f1214 rfl 39 (by decide) mT_1178 rfl rfl d_p15m16_233 ?_
                          refine lv_iconst (v := nI 1) hx hb d_p15m16_236 (by decide) ?_
                          refine pd_jeq (tgt := 252) hx hb d_p15m16_237 (by decide) (by decide) (by decide) (fun q => absurd q (by decide)) (fun _ => ?_)
                          refine lv_aload_n hx hb d_p15m16_240 rfl (lv_at hl 2 rfl) ?_
                          refine lv_iload_n hx hb d_p15m16_241 rfl (lv_at hl 0 rfl) ?_
                          refine lv_iconst (v := nI 1) hx hb d_p15m16_242 (by decide) ?_
                          refine pd_iadd hx hb d_p15m16_243 ?_
                          refine lv_iload_n hx hb d_p15m16_244 rfl (lv_at hl 1 rfl) ?_
                          refine pd_cV (a := y) (As := [.int (nI ((gm_name cs (sA i0) (eA i0)) + 1)), .int (nI (eA i0))]) (rest := []) X w f1214 rfl (c_PolicyDeskModel_behindPart l G h1212 (ad := ad) (fv := fv) (iv := pd_fu (pd_fu (pd_fu (pd_fu iv 37 (nI 0)) 38 (nI (gm_name cs (sA i0) (eA i0)))) 39 (nI 2)) 40 (nI ((gm_name cs (sA i0) (eA i0)) + 1))) (tl := tl) (pd_MO.of (fv2 := fv) (iv2 := pd_fu (pd_fu (pd_fu (pd_fu iv 37 (nI 0)) 38 (nI (gm_name cs (sA i0) (eA i0)))) 39 (nI 2)) 40 (nI ((gm_name cs (sA i0) (eA i0)) + 1))) (tl2 := tl) (ts := [20]) hMO (pd_kx.tr (pd_kx.tr (pd_kx.tr (pd_kx.tr (pd_kx.tr (pd_kx.tr (pd_kx.tr (pd_kq.kx (k2) hy0) (pd_kq.kx (k9) f3)) (pd_kq.kx (k1002) f10)) (pd_kq.kx (k1009) f1003)) (pd_kq.kx (k1167) f1010)) (pd_kq.kx (k1174) f1168)) (pd_kq.kx (k1206) f1175)) (pd_kq.kx (k1213) f1207)) f1214 (fun j hj => Or.inr ⟨fun z => by first | (simp at z; done) | (simp at z; omega), rfl⟩)) hL (by omega) (by omega)) ok_PolicyDeskModel_behindPart ⟨mT_1315, sT_19⟩ mT_1313 ⟨by decide, by decide⟩ rfl hl.1 rfl (Nat.le_of_ble_eq_true rfl) d_p15m16_245 ⟨by decide, by decide⟩ (fun r1220 h1221 H locs hp1222 w => ?_)
                          refine W.widen (k := 0) (n := 0) (by decide) (by decide) ?_
                          obtain ⟨e1223, rfl⟩ := hp1222
                          have hpl := gm_part_le (cs := cs) (x := gm_name cs (sA i0) (eA i0) + 1) (to := eA i0) (by omega)
                          refine lv_iload_n hx hb d_p15m16_248 rfl (lv_at hl 1 rfl) ?_
                          refine pd_jne (tgt := 256) hx hb d_p15m16_249 (by decide) (by omega) (by omega) (fun q1224 => ?_) (fun q1224 => ?_)
                          · -- taken: 256
                            refine lv_iconst (v := nI 0) hx hb d_p15m16_256 (by decide) ?_
                            have hpt : gm_pt cs (gm_name cs (sA i0) (eA i0)) (eA i0) = none := by unfold gm_pt; rw [if_neg (by omega), if_neg (by omega), if_neg (by omega), if_neg (by rw [← e1223]; omega)]
                            have hp : gm_pat cs (sA i0) (eA i0) = none := by unfold gm_pat; rw [hph]; simp only [hpt]
                            refine W.eq (g2 := F0 m 257 ls [.int (pd_b false)]) rfl ?_
                            exact pd_zret (v := false) X w ⟨by rw [hp]; rfl, pd_kx.tr (pd_kx.tr (pd_kx.tr (pd_kx.tr (pd_kx.tr (pd_kx.tr (pd_kx.tr (pd_kq.kx (k2) hy0) (pd_kq.kx (k9) f3)) (pd_kq.kx (k1002) f10)) (pd_kq.kx (k1009) f1003)) (pd_kq.kx (k1167) f1010)) (pd_kq.kx (k1174) f1168)) (pd_kq.kx (k1206) f1175)) (pd_kq.kx (k1213) f1207), (nI 0), (nI (gm_name cs (sA i0) (eA i0))), (nI 2), (nI ((gm_name cs (sA i0) (eA i0)) + 1)), (pd_MO.of (fv2 := fv) (iv2 := pd_fu (pd_fu (pd_fu (pd_fu iv 37 (nI 0)) 38 (nI (gm_name cs (sA i0) (eA i0)))) 39 (nI 2)) 40 (nI ((gm_name cs (sA i0) (eA i0)) + 1))) (tl2 := tl) (ts := [20]) hMO (pd_kx.tr (pd_kx.tr (pd_kx.tr (pd_kx.tr (pd_kx.tr (pd_kx.tr (pd_kx.tr (pd_kq.kx (k2) hy0) (pd_kq.kx (k9) f3)) (pd_kq.kx (k1002) f10)) (pd_kq.kx (k1009) f1003)) (pd_kq.kx (k1167) f1010)) (pd_kq.kx (k1174) f1168)) (pd_kq.kx (k1206) f1175)) (pd_kq.kx (k1213) f1207)) f1214 (fun j hj => Or.inr ⟨fun z => by first | (simp at z; done) | (simp at z; omega), rfl⟩)), fun t9 ht9 => by rw [hp] at ht9; cases ht9⟩ (by decide) (by decide) d_p15m16_257
                          · -- not taken: 252
                            refine lv_iconst (v := nI 1) hx hb d_p15m16_252 (by decide) ?_
                            refine lv_goto (tgt := 257) hx hb d_p15m16_253 (by decide) ?_
                            have hpt : gm_pt cs (gm_name cs (sA i0) (eA i0)) (eA i0) = some (2, gm_name cs (sA i0) (eA i0) + 1) := by unfold gm_pt; rw [if_neg (by omega), if_neg (by omega), if_neg (by omega), if_pos (by rw [← e1223]; omega)]
                            have hp : gm_pat cs (sA i0) (eA i0) = some (0, gm_name cs (sA i0) (eA i0), 2, gm_name cs (sA i0) (eA i0) + 1) := by unfold gm_pat; rw [hph]; simp only [hpt]
                            refine W.eq (g2 := F0 m 257 ls [.int (pd_b true)]) rfl ?_
                            exact pd_zret (v := true) X w ⟨by rw [hp]; rfl, pd_kx.tr (pd_kx.tr (pd_kx.tr (pd_kx.tr (pd_kx.tr (pd_kx.tr (pd_kx.tr (pd_kq.kx (k2) hy0) (pd_kq.kx (k9) f3)) (pd_kq.kx (k1002) f10)) (pd_kq.kx (k1009) f1003)) (pd_kq.kx (k1167) f1010)) (pd_kq.kx (k1174) f1168)) (pd_kq.kx (k1206) f1175)) (pd_kq.kx (k1213) f1207), (nI 0), (nI (gm_name cs (sA i0) (eA i0))), (nI 2), (nI ((gm_name cs (sA i0) (eA i0)) + 1)), (pd_MO.of (fv2 := fv) (iv2 := pd_fu (pd_fu (pd_fu (pd_fu iv 37 (nI 0)) 38 (nI (gm_name cs (sA i0) (eA i0)))) 39 (nI 2)) 40 (nI ((gm_name cs (sA i0) (eA i0)) + 1))) (tl2 := tl) (ts := [20]) hMO (pd_kx.tr (pd_kx.tr (pd_kx.tr (pd_kx.tr (pd_kx.tr (pd_kx.tr (pd_kx.tr (pd_kq.kx (k2) hy0) (pd_kq.kx (k9) f3)) (pd_kq.kx (k1002) f10)) (pd_kq.kx (k1009) f1003)) (pd_kq.kx (k1167) f1010)) (pd_kq.kx (k1174) f1168)) (pd_kq.kx (k1206) f1175)) (pd_kq.kx (k1213) f1207)) f1214 (fun j hj => Or.inr ⟨fun z => by first | (simp at z; done) | (simp at z; omega), rfl⟩)), fun t9 ht9 => by rw [hp] at ht9; cases ht9; exact ⟨rfl, rfl, rfl, rfl⟩⟩ (by decide) (by decide) d_p15m16_257
                        · -- not taken: 217
                          refine lv_iconst (v := nI 1) hx hb d_p15m16_217 (by decide) ?_
                          refine lv_goto (tgt := 222) hx hb d_p15m16_218 (by decide) ?_
                          refine pd_put (ty := .int) X w f1175 hz_y rfl 39 (by decide) mT_1178 rfl rfl (by decide +kernel) rfl rfl (Nat.le_of_ble_eq_true rfl) d_p15m16_222 (fun H locs w => ?_)
                          have w : pd_w G s H locs (pd_up h1173 y (20, .inr (10, [.ref (ad 0), .ref (ad 1), .ref (ad 2), .int (iv 3), .int (iv 4), .int (iv 5), .ref (ad 6), .ref (ad 7), .ref (ad 8), .ref (ad 9), .ref (ad 10), .ref (ad 11), .int (iv 12), .ref (ad 13), .ref (ad 14), .ref (ad 15), .ref (ad 16), .ref (ad 17), .ref (ad 18), .ref (ad 19), .int (iv 20), .ref (ad 21), .ref (ad 22), .ref (ad 23), .ref (ad 24), .ref (ad 25), .ref (ad 26), .ref (ad 27), .ref (ad 28), .int (iv 29), .ref (ad 30), .ref (ad 31), .int (iv 32), .int (iv 33), .int (iv 34), .int (iv 35), .long tl, .int (nI 0), .int (nI (gm_name cs (sA i0) (eA i0))), .int (nI 1), .int (nI (eA i0)), .ref (ad 41), .ref (ad 42), .int (iv 43)]))) := w
                          obtain ⟨h1225, u1228⟩ : ∃ z, z = pd_up h1173 y (20, .inr (10, [.ref (ad 0), .ref (ad 1), .ref (ad 2), .int (iv 3), .int (iv 4), .int (iv 5), .ref (ad 6), .ref (ad 7), .ref (ad 8), .ref (ad 9), .ref (ad 10), .ref (ad 11), .int (iv 12), .ref (ad 13), .ref (ad 14), .ref (ad 15), .ref (ad 16), .ref (ad 17), .ref (ad 18), .ref (ad 19), .int (iv 20), .ref (ad 21), .ref (ad 22), .ref (ad 23), .ref (ad 24), .ref (ad 25), .ref (ad 26), .ref (ad 27), .ref (ad 28), .int (iv 29), .ref (ad 30), .ref (ad 31), .int (iv 32), .int (iv 33), .int (iv 34), .int (iv 35), .long tl, .int (nI 0), .int (nI (gm_name cs (sA i0) (eA i0))), .int (nI 1), .int (nI (eA i0)), .ref (ad 41), .ref (ad 42), .int (iv 43)])) := ⟨_, rfl⟩
                          rw [← u1228] at w
                          have k1226 : pd_kq y h1173 h1225 := by rw [u1228]; exact pd_up_kq
                          have f1227 : h1225 y = some (20, .inr (10, [.ref (ad 0), .ref (ad 1), .ref (ad 2), .int (iv 3), .int (iv 4), .int (iv 5), .ref (ad 6), .ref (ad 7), .ref (ad 8), .ref (ad 9), .ref (ad 10), .ref (ad 11), .int (iv 12), .ref (ad 13), .ref (ad 14), .ref (ad 15), .ref (ad 16), .ref (ad 17), .ref (ad 18), .ref (ad 19), .int (iv 20), .ref (ad 21), .ref (ad 22), .ref (ad 23), .ref (ad 24), .ref (ad 25), .ref (ad 26), .ref (ad 27), .ref (ad 28), .int (iv 29), .ref (ad 30), .ref (ad 31), .int (iv 32), .int (iv 33), .int (iv 34), .int (iv 35), .long tl, .int (nI 0), .int (nI (gm_name cs (sA i0) (eA i0))), .int (nI 1), .int (nI (eA i0)), .ref (ad 41), .ref (ad 42), .int (iv 43)])) := by rw [u1228]; exact pd_up_s _ _ _
                          have f1229 := k1226 _ _ (pd_ne f1177 f1175 (by simp)) f1177
                          have f1230 := k1226 _ _ (pd_ne f1178 f1175 (by simp)) f1178
                          have f1231 := k1226 _ _ (pd_ne f1179 f1175 (by simp)) f1179
                          refine lv_aload_n hx hb d_p15m16_225 rfl (lv_at hl 2 rfl) ?_
                          refine lv_iload_n hx hb d_p15m16_226 rfl (lv_at hl 0 rfl) ?_
                          refine lv_iconst (v := nI 1) hx hb d_p15m16_227 (by decide) ?_
                          refine pd_iadd hx hb d_p15m16_228 ?_
                          refine pd_put (ty := .int) X w f1227 hz_y rfl 40 (by decide) mT_1179 rfl rfl (by decide +kernel) rfl rfl (Nat.le_of_ble_eq_true rfl) d_p15m16_229 (fun H locs w => ?_)
                          have w : pd_w G s H locs (pd_up h1225 y (20, .inr (10, [.ref (ad 0), .ref (ad 1), .ref (ad 2), .int (iv 3), .int (iv 4), .int (iv 5), .ref (ad 6), .ref (ad 7), .ref (ad 8), .ref (ad 9), .ref (ad 10), .ref (ad 11), .int (iv 12), .ref (ad 13), .ref (ad 14), .ref (ad 15), .ref (ad 16), .ref (ad 17), .ref (ad 18), .ref (ad 19), .int (iv 20), .ref (ad 21), .ref (ad 22), .ref (ad 23), .ref (ad 24), .ref (ad 25), .ref (ad 26), .ref (ad 27), .ref (ad 28), .int (iv 29), .ref (ad 30), .ref (ad 31), .int (iv 32), .int (iv 33), .int (iv 34), .int (iv 35), .long tl, .int (nI 0), .int (nI (gm_name cs (sA i0) (eA i0))), .int (nI 1), .int (nI ((gm_name cs (sA i0) (eA i0)) + 1)), .ref (ad 41), .ref (ad 42), .int (iv 43)]))) := w
                          obtain ⟨h1232, u1235⟩ : ∃ z, z = pd_up h1225 y (20, .inr (10, [.ref (ad 0), .ref (ad 1), .ref (ad 2), .int (iv 3), .int (iv 4), .int (iv 5), .ref (ad 6), .ref (ad 7), .ref (ad 8), .ref (ad 9), .ref (ad 10), .ref (ad 11), .int (iv 12), .ref (ad 13), .ref (ad 14), .ref (ad 15), .ref (ad 16), .ref (ad 17), .ref (ad 18), .ref (ad 19), .int (iv 20), .ref (ad 21), .ref (ad 22), .ref (ad 23), .ref (ad 24), .ref (ad 25), .ref (ad 26), .ref (ad 27), .ref (ad 28), .int (iv 29), .ref (ad 30), .ref (ad 31), .int (iv 32), .int (iv 33), .int (iv 34), .int (iv 35), .long tl, .int (nI 0), .int (nI (gm_name cs (sA i0) (eA i0))), .int (nI 1), .int (nI ((gm_name cs (sA i0) (eA i0)) + 1)), .ref (ad 41), .ref (ad 42), .int (iv 43)])) := ⟨_, rfl⟩
                          rw [← u1235] at w
                          have k1233 : pd_kq y h1225 h1232 := by rw [u1235]; exact pd_up_kq
                          have f1234 : h1232 y = some (20, .inr (10, [.ref (ad 0), .ref (ad 1), .ref (ad 2), .int (iv 3), .int (iv 4), .int (iv 5), .ref (ad 6), .ref (ad 7), .ref (ad 8), .ref (ad 9), .ref (ad 10), .ref (ad 11), .int (iv 12), .ref (ad 13), .ref (ad 14), .ref (ad 15), .ref (ad 16), .ref (ad 17), .ref (ad 18), .ref (ad 19), .int (iv 20), .ref (ad 21), .ref (ad 22), .ref (ad 23), .ref (ad 24), .ref (ad 25), .ref (ad 26), .ref (ad 27), .ref (ad 28), .int (iv 29), .ref (ad 30), .ref (ad 31), .int (iv 32), .int (iv 33), .int (iv 34), .int (iv 35), .long tl, .int (nI 0), .int (nI (gm_name cs (sA i0) (eA i0))), .int (nI 1), .int (nI ((gm_name cs (sA i0) (eA i0)) + 1)), .ref (ad 41), .ref (ad 42), .int (iv 43)])) := by rw [u1235]; exact pd_up_s _ _ _
                          have f1236 := k1233 _ _ (pd_ne f1229 f1227 (by simp)) f1229
                          have f1237 := k1233 _ _ (pd_ne f1230 f1227 (by simp)) f1230
                          have f1238 := k1233 _ _ (pd_ne f1231 f1227 (by simp)) f1231
                          refine lv_aload_n hx hb d_p15m16_232 rfl (lv_at hl 2 rfl) ?_
                          refine pd_get X w f1234 rfl 39 (by decide) mT_1178 rfl rfl d_p15m16_233 ?_
                          refine lv_iconst (v := nI 1) hx hb d_p15m16_236 (by decide) ?_
                          refine pd_jeq (tgt := 252) hx hb d_p15m16_237 (by decide) (by decide) (by decide) (fun _ => ?_) (fun q => absurd q (by decide))
                          refine lv_iconst (v := nI 1) hx hb d_p15m16_252 (by decide) ?_
                          refine lv_goto (tgt := 257) hx hb d_p15m16_253 (by decide) ?_
                          have hpt : gm_pt cs (gm_name cs (sA i0) (eA i0)) (eA i0) = some (1, gm_name cs (sA i0) (eA i0) + 1) := by unfold gm_pt; rw [if_neg (by omega), if_neg (by omega), if_pos (by omega)]
                          have hp : gm_pat cs (sA i0) (eA i0) = some (0, gm_name cs (sA i0) (eA i0), 1, gm_name cs (sA i0) (eA i0) + 1) := by unfold gm_pat; rw [hph]; simp only [hpt]
                          refine W.eq (g2 := F0 m 257 ls [.int (pd_b true)]) rfl ?_
                          exact pd_zret (v := true) X w ⟨by rw [hp]; rfl, pd_kx.tr (pd_kx.tr (pd_kx.tr (pd_kx.tr (pd_kx.tr (pd_kx.tr (pd_kx.tr (pd_kq.kx (k2) hy0) (pd_kq.kx (k9) f3)) (pd_kq.kx (k1002) f10)) (pd_kq.kx (k1009) f1003)) (pd_kq.kx (k1167) f1010)) (pd_kq.kx (k1174) f1168)) (pd_kq.kx (k1226) f1175)) (pd_kq.kx (k1233) f1227), (nI 0), (nI (gm_name cs (sA i0) (eA i0))), (nI 1), (nI ((gm_name cs (sA i0) (eA i0)) + 1)), (pd_MO.of (fv2 := fv) (iv2 := pd_fu (pd_fu (pd_fu (pd_fu iv 37 (nI 0)) 38 (nI (gm_name cs (sA i0) (eA i0)))) 39 (nI 1)) 40 (nI ((gm_name cs (sA i0) (eA i0)) + 1))) (tl2 := tl) (ts := [20]) hMO (pd_kx.tr (pd_kx.tr (pd_kx.tr (pd_kx.tr (pd_kx.tr (pd_kx.tr (pd_kx.tr (pd_kq.kx (k2) hy0) (pd_kq.kx (k9) f3)) (pd_kq.kx (k1002) f10)) (pd_kq.kx (k1009) f1003)) (pd_kq.kx (k1167) f1010)) (pd_kq.kx (k1174) f1168)) (pd_kq.kx (k1226) f1175)) (pd_kq.kx (k1233) f1227)) f1234 (fun j hj => Or.inr ⟨fun z => by first | (simp at z; done) | (simp at z; omega), rfl⟩)), fun t9 ht9 => by rw [hp] at ht9; cases ht9; exact ⟨rfl, rfl, rfl, rfl⟩⟩ (by decide) (by decide) d_p15m16_257
                    · -- not taken: 194
                      refine lv_iconst (v := nI 0) hx hb d_p15m16_194 (by decide) ?_
                      have hpt : gm_pt cs (gm_name cs (sA i0) (eA i0)) (eA i0) = none := by unfold gm_pt; rw [if_neg (by omega), if_pos (by omega)]
                      have hp : gm_pat cs (sA i0) (eA i0) = none := by unfold gm_pat; rw [hph]; simp only [hpt]
                      refine W.eq (g2 := F0 m 195 ls [.int (pd_b false)]) rfl ?_
                      exact pd_zret (v := false) X w ⟨by rw [hp]; rfl, pd_kx.tr (pd_kx.tr (pd_kx.tr (pd_kx.tr (pd_kx.tr (pd_kq.kx (k2) hy0) (pd_kq.kx (k9) f3)) (pd_kq.kx (k1002) f10)) (pd_kq.kx (k1009) f1003)) (pd_kq.kx (k1167) f1010)) (pd_kq.kx (k1174) f1168), (nI 0), (nI (gm_name cs (sA i0) (eA i0))), (nI 0), (nI (eA i0)), (pd_MO.of (fv2 := fv) (iv2 := pd_fu (pd_fu (pd_fu (pd_fu iv 37 (nI 0)) 38 (nI (gm_name cs (sA i0) (eA i0)))) 39 (nI 0)) 40 (nI (eA i0))) (tl2 := tl) (ts := [20]) hMO (pd_kx.tr (pd_kx.tr (pd_kx.tr (pd_kx.tr (pd_kx.tr (pd_kq.kx (k2) hy0) (pd_kq.kx (k9) f3)) (pd_kq.kx (k1002) f10)) (pd_kq.kx (k1009) f1003)) (pd_kq.kx (k1167) f1010)) (pd_kq.kx (k1174) f1168)) f1175 (fun j hj => Or.inr ⟨fun z => by first | (simp at z; done) | (simp at z; omega), rfl⟩)), fun t9 ht9 => by rw [hp] at ht9; cases ht9⟩ (by decide) (by decide) d_p15m16_195
                · -- not taken: 174
                  refine lv_iconst (v := nI 1) hx hb d_p15m16_174 (by decide) ?_
                  have hpt : gm_pt cs (gm_name cs (sA i0) (eA i0)) (eA i0) = some (0, eA i0) := by unfold gm_pt; rw [if_pos (by omega)]
                  have hp : gm_pat cs (sA i0) (eA i0) = some (0, gm_name cs (sA i0) (eA i0), 0, eA i0) := by unfold gm_pat; rw [hph]; simp only [hpt]
                  refine W.eq (g2 := F0 m 175 ls [.int (pd_b true)]) rfl ?_
                  exact pd_zret (v := true) X w ⟨by rw [hp]; rfl, pd_kx.tr (pd_kx.tr (pd_kx.tr (pd_kx.tr (pd_kx.tr (pd_kq.kx (k2) hy0) (pd_kq.kx (k9) f3)) (pd_kq.kx (k1002) f10)) (pd_kq.kx (k1009) f1003)) (pd_kq.kx (k1167) f1010)) (pd_kq.kx (k1174) f1168), (nI 0), (nI (gm_name cs (sA i0) (eA i0))), (nI 0), (nI (eA i0)), (pd_MO.of (fv2 := fv) (iv2 := pd_fu (pd_fu (pd_fu (pd_fu iv 37 (nI 0)) 38 (nI (gm_name cs (sA i0) (eA i0)))) 39 (nI 0)) 40 (nI (eA i0))) (tl2 := tl) (ts := [20]) hMO (pd_kx.tr (pd_kx.tr (pd_kx.tr (pd_kx.tr (pd_kx.tr (pd_kq.kx (k2) hy0) (pd_kq.kx (k9) f3)) (pd_kq.kx (k1002) f10)) (pd_kq.kx (k1009) f1003)) (pd_kq.kx (k1167) f1010)) (pd_kq.kx (k1174) f1168)) f1175 (fun j hj => Or.inr ⟨fun z => by first | (simp at z; done) | (simp at z; omega), rfl⟩)), fun t9 ht9 => by rw [hp] at ht9; cases ht9; exact ⟨rfl, rfl, rfl, rfl⟩⟩ (by decide) (by decide) d_p15m16_175
              · -- not taken: 121
                refine lv_aload_n hx hb d_p15m16_121 rfl (lv_at hl 2 rfl) ?_
                refine lv_iload_n hx hb d_p15m16_122 rfl (lv_at hl 0 rfl) ?_
                refine lv_iconst (v := nI 2) hx hb d_p15m16_123 (by decide) ?_
                refine pd_iadd hx hb d_p15m16_124 ?_
                refine lv_iload_n hx hb d_p15m16_125 rfl (lv_at hl 1 rfl) ?_
                refine pd_jge (tgt := 146) hx hb d_p15m16_126 (by decide) (by omega) (by omega) (fun q1240 => ?_) (fun q1240 => ?_)
                · -- taken: 146
                  refine lv_iconst (v := nI 1) hx hb d_p15m16_146 (by decide) ?_
                  refine pd_put (ty := .int) X w f1010 hz_y rfl 37 (by decide) mT_1176 rfl rfl (by decide +kernel) rfl rfl (Nat.le_of_ble_eq_true rfl) d_p15m16_147 (fun H locs w => ?_)
                  have w : pd_w G s H locs (pd_up h1008 y (20, .inr (10, [.ref (ad 0), .ref (ad 1), .ref (ad 2), .int (iv 3), .int (iv 4), .int (iv 5), .ref (ad 6), .ref (ad 7), .ref (ad 8), .ref (ad 9), .ref (ad 10), .ref (ad 11), .int (iv 12), .ref (ad 13), .ref (ad 14), .ref (ad 15), .ref (ad 16), .ref (ad 17), .ref (ad 18), .ref (ad 19), .int (iv 20), .ref (ad 21), .ref (ad 22), .ref (ad 23), .ref (ad 24), .ref (ad 25), .ref (ad 26), .ref (ad 27), .ref (ad 28), .int (iv 29), .ref (ad 30), .ref (ad 31), .int (iv 32), .int (iv 33), .int (iv 34), .int (iv 35), .long tl, .int (nI 1), .int (nI (gm_name cs (sA i0) (eA i0))), .int (iv 39), .int (iv 40), .ref (ad 41), .ref (ad 42), .int (iv 43)]))) := w
                  obtain ⟨h1241, u1244⟩ : ∃ z, z = pd_up h1008 y (20, .inr (10, [.ref (ad 0), .ref (ad 1), .ref (ad 2), .int (iv 3), .int (iv 4), .int (iv 5), .ref (ad 6), .ref (ad 7), .ref (ad 8), .ref (ad 9), .ref (ad 10), .ref (ad 11), .int (iv 12), .ref (ad 13), .ref (ad 14), .ref (ad 15), .ref (ad 16), .ref (ad 17), .ref (ad 18), .ref (ad 19), .int (iv 20), .ref (ad 21), .ref (ad 22), .ref (ad 23), .ref (ad 24), .ref (ad 25), .ref (ad 26), .ref (ad 27), .ref (ad 28), .int (iv 29), .ref (ad 30), .ref (ad 31), .int (iv 32), .int (iv 33), .int (iv 34), .int (iv 35), .long tl, .int (nI 1), .int (nI (gm_name cs (sA i0) (eA i0))), .int (iv 39), .int (iv 40), .ref (ad 41), .ref (ad 42), .int (iv 43)])) := ⟨_, rfl⟩
                  rw [← u1244] at w
                  have k1242 : pd_kq y h1008 h1241 := by rw [u1244]; exact pd_up_kq
                  have f1243 : h1241 y = some (20, .inr (10, [.ref (ad 0), .ref (ad 1), .ref (ad 2), .int (iv 3), .int (iv 4), .int (iv 5), .ref (ad 6), .ref (ad 7), .ref (ad 8), .ref (ad 9), .ref (ad 10), .ref (ad 11), .int (iv 12), .ref (ad 13), .ref (ad 14), .ref (ad 15), .ref (ad 16), .ref (ad 17), .ref (ad 18), .ref (ad 19), .int (iv 20), .ref (ad 21), .ref (ad 22), .ref (ad 23), .ref (ad 24), .ref (ad 25), .ref (ad 26), .ref (ad 27), .ref (ad 28), .int (iv 29), .ref (ad 30), .ref (ad 31), .int (iv 32), .int (iv 33), .int (iv 34), .int (iv 35), .long tl, .int (nI 1), .int (nI (gm_name cs (sA i0) (eA i0))), .int (iv 39), .int (iv 40), .ref (ad 41), .ref (ad 42), .int (iv 43)])) := by rw [u1244]; exact pd_up_s _ _ _
                  have f1245 := k1242 _ _ (pd_ne f1012 f1010 (by simp)) f1012
                  have f1246 := k1242 _ _ (pd_ne f1013 f1010 (by simp)) f1013
                  have f1247 := k1242 _ _ (pd_ne f1014 f1010 (by simp)) f1014
                  refine lv_iload_n hx hb d_p15m16_150 rfl (lv_at hl 0 rfl) ?_
                  refine lv_iconst (v := nI 1) hx hb d_p15m16_151 (by decide) ?_
                  refine lv_aload_n hx hb d_p15m16_152 rfl (lv_at hl 2 rfl) ?_
                  refine pd_get X w f1243 rfl 37 (by decide) mT_1176 rfl rfl d_p15m16_153 ?_
                  refine pd_iadd hx hb d_p15m16_156 ?_
                  refine pd_iadd hx hb d_p15m16_157 ?_
                  refine lv_istore_n (lv' := [(2, .int (nI ((gm_name cs (sA i0) (eA i0)) + 2))), (3, .int (nI (eA i0))), (0, .ref y), (1, .int (nI i0))]) hx hb d_p15m16_158 rfl hl (by decide) rfl (fun ls hl => ?_)
                  have hph : gm_ph cs (sA i0) (eA i0) = some (1, gm_name cs (sA i0) (eA i0), (gm_name cs (sA i0) (eA i0)) + 2) := by unfold gm_ph; rw [if_neg (by omega), if_neg (by omega), if_pos (by omega), if_neg (by omega)]
                  refine lv_aload_n hx hb d_p15m16_159 rfl (lv_at hl 2 rfl) ?_
                  refine lv_iconst (v := nI 0) hx hb d_p15m16_160 (by decide) ?_
                  refine pd_put (ty := .int) X w f1243 hz_y rfl 39 (by decide) mT_1178 rfl rfl (by decide +kernel) rfl rfl (Nat.le_of_ble_eq_true rfl) d_p15m16_161 (fun H locs w => ?_)
                  have w : pd_w G s H locs (pd_up h1241 y (20, .inr (10, [.ref (ad 0), .ref (ad 1), .ref (ad 2), .int (iv 3), .int (iv 4), .int (iv 5), .ref (ad 6), .ref (ad 7), .ref (ad 8), .ref (ad 9), .ref (ad 10), .ref (ad 11), .int (iv 12), .ref (ad 13), .ref (ad 14), .ref (ad 15), .ref (ad 16), .ref (ad 17), .ref (ad 18), .ref (ad 19), .int (iv 20), .ref (ad 21), .ref (ad 22), .ref (ad 23), .ref (ad 24), .ref (ad 25), .ref (ad 26), .ref (ad 27), .ref (ad 28), .int (iv 29), .ref (ad 30), .ref (ad 31), .int (iv 32), .int (iv 33), .int (iv 34), .int (iv 35), .long tl, .int (nI 1), .int (nI (gm_name cs (sA i0) (eA i0))), .int (nI 0), .int (iv 40), .ref (ad 41), .ref (ad 42), .int (iv 43)]))) := w
                  obtain ⟨h1248, u1251⟩ : ∃ z, z = pd_up h1241 y (20, .inr (10, [.ref (ad 0), .ref (ad 1), .ref (ad 2), .int (iv 3), .int (iv 4), .int (iv 5), .ref (ad 6), .ref (ad 7), .ref (ad 8), .ref (ad 9), .ref (ad 10), .ref (ad 11), .int (iv 12), .ref (ad 13), .ref (ad 14), .ref (ad 15), .ref (ad 16), .ref (ad 17), .ref (ad 18), .ref (ad 19), .int (iv 20), .ref (ad 21), .ref (ad 22), .ref (ad 23), .ref (ad 24), .ref (ad 25), .ref (ad 26), .ref (ad 27), .ref (ad 28), .int (iv 29), .ref (ad 30), .ref (ad 31), .int (iv 32), .int (iv 33), .int (iv 34), .int (iv 35), .long tl, .int (nI 1), .int (nI (gm_name cs (sA i0) (eA i0))), .int (nI 0), .int (iv 40), .ref (ad 41), .ref (ad 42), .int (iv 43)])) := ⟨_, rfl⟩
                  rw [← u1251] at w
                  have k1249 : pd_kq y h1241 h1248 := by rw [u1251]; exact pd_up_kq
                  have f1250 : h1248 y = some (20, .inr (10, [.ref (ad 0), .ref (ad 1), .ref (ad 2), .int (iv 3), .int (iv 4), .int (iv 5), .ref (ad 6), .ref (ad 7), .ref (ad 8), .ref (ad 9), .ref (ad 10), .ref (ad 11), .int (iv 12), .ref (ad 13), .ref (ad 14), .ref (ad 15), .ref (ad 16), .ref (ad 17), .ref (ad 18), .ref (ad 19), .int (iv 20), .ref (ad 21), .ref (ad 22), .ref (ad 23), .ref (ad 24), .ref (ad 25), .ref (ad 26), .ref (ad 27), .ref (ad 28), .int (iv 29), .ref (ad 30), .ref (ad 31), .int (iv 32), .int (iv 33), .int (iv 34), .int (iv 35), .long tl, .int (nI 1), .int (nI (gm_name cs (sA i0) (eA i0))), .int (nI 0), .int (iv 40), .ref (ad 41), .ref (ad 42), .int (iv 43)])) := by rw [u1251]; exact pd_up_s _ _ _
                  have f1252 := k1249 _ _ (pd_ne f1245 f1243 (by simp)) f1245
                  have f1253 := k1249 _ _ (pd_ne f1246 f1243 (by simp)) f1246
                  have f1254 := k1249 _ _ (pd_ne f1247 f1243 (by simp)) f1247
                  refine lv_aload_n hx hb d_p15m16_164 rfl (lv_at hl 2 rfl) ?_
                  refine lv_iload_n hx hb d_p15m16_165 rfl (lv_at hl 1 rfl) ?_
                  refine pd_put (ty := .int) X w f1250 hz_y rfl 40 (by decide) mT_1179 rfl rfl (by decide +kernel) rfl rfl (Nat.le_of_ble_eq_true rfl) d_p15m16_166 (fun H locs w => ?_)
                  have w : pd_w G s H locs (pd_up h1248 y (20, .inr (10, [.ref (ad 0), .ref (ad 1), .ref (ad 2), .int (iv 3), .int (iv 4), .int (iv 5), .ref (ad 6), .ref (ad 7), .ref (ad 8), .ref (ad 9), .ref (ad 10), .ref (ad 11), .int (iv 12), .ref (ad 13), .ref (ad 14), .ref (ad 15), .ref (ad 16), .ref (ad 17), .ref (ad 18), .ref (ad 19), .int (iv 20), .ref (ad 21), .ref (ad 22), .ref (ad 23), .ref (ad 24), .ref (ad 25), .ref (ad 26), .ref (ad 27), .ref (ad 28), .int (iv 29), .ref (ad 30), .ref (ad 31), .int (iv 32), .int (iv 33), .int (iv 34), .int (iv 35), .long tl, .int (nI 1), .int (nI (gm_name cs (sA i0) (eA i0))), .int (nI 0), .int (nI (eA i0)), .ref (ad 41), .ref (ad 42), .int (iv 43)]))) := w
                  obtain ⟨h1255, u1258⟩ : ∃ z, z = pd_up h1248 y (20, .inr (10, [.ref (ad 0), .ref (ad 1), .ref (ad 2), .int (iv 3), .int (iv 4), .int (iv 5), .ref (ad 6), .ref (ad 7), .ref (ad 8), .ref (ad 9), .ref (ad 10), .ref (ad 11), .int (iv 12), .ref (ad 13), .ref (ad 14), .ref (ad 15), .ref (ad 16), .ref (ad 17), .ref (ad 18), .ref (ad 19), .int (iv 20), .ref (ad 21), .ref (ad 22), .ref (ad 23), .ref (ad 24), .ref (ad 25), .ref (ad 26), .ref (ad 27), .ref (ad 28), .int (iv 29), .ref (ad 30), .ref (ad 31), .int (iv 32), .int (iv 33), .int (iv 34), .int (iv 35), .long tl, .int (nI 1), .int (nI (gm_name cs (sA i0) (eA i0))), .int (nI 0), .int (nI (eA i0)), .ref (ad 41), .ref (ad 42), .int (iv 43)])) := ⟨_, rfl⟩
                  rw [← u1258] at w
                  have k1256 : pd_kq y h1248 h1255 := by rw [u1258]; exact pd_up_kq
                  have f1257 : h1255 y = some (20, .inr (10, [.ref (ad 0), .ref (ad 1), .ref (ad 2), .int (iv 3), .int (iv 4), .int (iv 5), .ref (ad 6), .ref (ad 7), .ref (ad 8), .ref (ad 9), .ref (ad 10), .ref (ad 11), .int (iv 12), .ref (ad 13), .ref (ad 14), .ref (ad 15), .ref (ad 16), .ref (ad 17), .ref (ad 18), .ref (ad 19), .int (iv 20), .ref (ad 21), .ref (ad 22), .ref (ad 23), .ref (ad 24), .ref (ad 25), .ref (ad 26), .ref (ad 27), .ref (ad 28), .int (iv 29), .ref (ad 30), .ref (ad 31), .int (iv 32), .int (iv 33), .int (iv 34), .int (iv 35), .long tl, .int (nI 1), .int (nI (gm_name cs (sA i0) (eA i0))), .int (nI 0), .int (nI (eA i0)), .ref (ad 41), .ref (ad 42), .int (iv 43)])) := by rw [u1258]; exact pd_up_s _ _ _
                  have f1259 := k1256 _ _ (pd_ne f1252 f1250 (by simp)) f1252
                  have f1260 := k1256 _ _ (pd_ne f1253 f1250 (by simp)) f1253
                  have f1261 := k1256 _ _ (pd_ne f1254 f1250 (by simp)) f1254
                  refine lv_iload_n hx hb d_p15m16_169 rfl (lv_at hl 0 rfl) ?_
                  refine lv_iload_n hx hb d_p15m16_170 rfl (lv_at hl 1 rfl) ?_
                  refine pd_jne (tgt := 176) hx hb d_p15m16_171 (by decide) (by omega) (by omega) (fun q1262 => ?_) (fun q1262 => ?_)
                  · -- taken: 176
                    refine lv_aload_n hx hb d_p15m16_176 rfl (lv_at hl 2 rfl) ?_
                    refine pd_get X w f1257 rfl 0 (by decide) mT_1139 rfl rfl d_p15m16_177 ?_
                    refine lv_iload_n hx hb d_p15m16_180 rfl (lv_at hl 0 rfl) ?_
                    refine pd_iald X w f1259 (by omega) (by omega) d_p15m16_181 ?_
                    refine pd_top (v' := .int (nI (cs.getD ((gm_name cs (sA i0) (eA i0)) + 2) 0))) (congrArg Value.int (hln _ (by omega))) ?_
                    have := tx_lt hlc ((gm_name cs (sA i0) (eA i0)) + 2)
                    refine lv_bipush (v := nI 46) hx hb d_p15m16_182 (by decide) ?_
                    refine pd_jne (tgt := 194) hx hb d_p15m16_184 (by decide) (by omega) (by omega) (fun q1263 => ?_) (fun q1263 => ?_)
                    · -- taken: 194
                      refine lv_iconst (v := nI 0) hx hb d_p15m16_194 (by decide) ?_
                      have hpt : gm_pt cs ((gm_name cs (sA i0) (eA i0)) + 2) (eA i0) = none := by unfold gm_pt; rw [if_neg (by omega), if_pos (by omega)]
                      have hp : gm_pat cs (sA i0) (eA i0) = none := by unfold gm_pat; rw [hph]; simp only [hpt]
                      refine W.eq (g2 := F0 m 195 ls [.int (pd_b false)]) rfl ?_
                      exact pd_zret (v := false) X w ⟨by rw [hp]; rfl, pd_kx.tr (pd_kx.tr (pd_kx.tr (pd_kx.tr (pd_kx.tr (pd_kx.tr (pd_kq.kx (k2) hy0) (pd_kq.kx (k9) f3)) (pd_kq.kx (k1002) f10)) (pd_kq.kx (k1009) f1003)) (pd_kq.kx (k1242) f1010)) (pd_kq.kx (k1249) f1243)) (pd_kq.kx (k1256) f1250), (nI 1), (nI (gm_name cs (sA i0) (eA i0))), (nI 0), (nI (eA i0)), (pd_MO.of (fv2 := fv) (iv2 := pd_fu (pd_fu (pd_fu (pd_fu iv 37 (nI 1)) 38 (nI (gm_name cs (sA i0) (eA i0)))) 39 (nI 0)) 40 (nI (eA i0))) (tl2 := tl) (ts := [20]) hMO (pd_kx.tr (pd_kx.tr (pd_kx.tr (pd_kx.tr (pd_kx.tr (pd_kx.tr (pd_kq.kx (k2) hy0) (pd_kq.kx (k9) f3)) (pd_kq.kx (k1002) f10)) (pd_kq.kx (k1009) f1003)) (pd_kq.kx (k1242) f1010)) (pd_kq.kx (k1249) f1243)) (pd_kq.kx (k1256) f1250)) f1257 (fun j hj => Or.inr ⟨fun z => by first | (simp at z; done) | (simp at z; omega), rfl⟩)), fun t9 ht9 => by rw [hp] at ht9; cases ht9⟩ (by decide) (by decide) d_p15m16_195
                    · -- not taken: 187
                      refine lv_iload_n hx hb d_p15m16_187 rfl (lv_at hl 0 rfl) ?_
                      refine lv_iconst (v := nI 1) hx hb d_p15m16_188 (by decide) ?_
                      refine pd_iadd hx hb d_p15m16_189 ?_
                      refine lv_iload_n hx hb d_p15m16_190 rfl (lv_at hl 1 rfl) ?_
                      refine pd_jne (tgt := 196) hx hb d_p15m16_191 (by decide) (by omega) (by omega) (fun q1264 => ?_) (fun q1264 => ?_)
                      · -- taken: 196
                        refine lv_aload_n hx hb d_p15m16_196 rfl (lv_at hl 2 rfl) ?_
                        refine lv_aload_n hx hb d_p15m16_197 rfl (lv_at hl 2 rfl) ?_
                        refine pd_get X w f1257 rfl 0 (by decide) mT_1139 rfl rfl d_p15m16_198 ?_
                        refine lv_iload_n hx hb d_p15m16_201 rfl (lv_at hl 0 rfl) ?_
                        refine lv_iconst (v := nI 1) hx hb d_p15m16_202 (by decide) ?_
                        refine pd_iadd hx hb d_p15m16_203 ?_
                        refine pd_iald X w f1259 (by omega) (by omega) d_p15m16_204 ?_
                        refine pd_top (v' := .int (nI (cs.getD (((gm_name cs (sA i0) (eA i0)) + 2) + 1) 0))) (congrArg Value.int (hln _ (by omega))) ?_
                        have := tx_lt hlc (((gm_name cs (sA i0) (eA i0)) + 2) + 1)
                        refine lv_bipush (v := nI 42) hx hb d_p15m16_205 (by decide) ?_
                        refine pd_jne (tgt := 221) hx hb d_p15m16_207 (by decide) (by omega) (by omega) (fun q1265 => ?_) (fun q1265 => ?_)
                        · -- taken: 221
                          refine lv_iconst (v := nI 2) hx hb d_p15m16_221 (by decide) ?_
                          refine pd_put (ty := .int) X w f1257 hz_y rfl 39 (by decide) mT_1178 rfl rfl (by decide +kernel) rfl rfl (Nat.le_of_ble_eq_true rfl) d_p15m16_222 (fun H locs w => ?_)
                          have w : pd_w G s H locs (pd_up h1255 y (20, .inr (10, [.ref (ad 0), .ref (ad 1), .ref (ad 2), .int (iv 3), .int (iv 4), .int (iv 5), .ref (ad 6), .ref (ad 7), .ref (ad 8), .ref (ad 9), .ref (ad 10), .ref (ad 11), .int (iv 12), .ref (ad 13), .ref (ad 14), .ref (ad 15), .ref (ad 16), .ref (ad 17), .ref (ad 18), .ref (ad 19), .int (iv 20), .ref (ad 21), .ref (ad 22), .ref (ad 23), .ref (ad 24), .ref (ad 25), .ref (ad 26), .ref (ad 27), .ref (ad 28), .int (iv 29), .ref (ad 30), .ref (ad 31), .int (iv 32), .int (iv 33), .int (iv 34), .int (iv 35), .long tl, .int (nI 1), .int (nI (gm_name cs (sA i0) (eA i0))), .int (nI 2), .int (nI (eA i0)), .ref (ad 41), .ref (ad 42), .int (iv 43)]))) := w
                          obtain ⟨h1266, u1269⟩ : ∃ z, z = pd_up h1255 y (20, .inr (10, [.ref (ad 0), .ref (ad 1), .ref (ad 2), .int (iv 3), .int (iv 4), .int (iv 5), .ref (ad 6), .ref (ad 7), .ref (ad 8), .ref (ad 9), .ref (ad 10), .ref (ad 11), .int (iv 12), .ref (ad 13), .ref (ad 14), .ref (ad 15), .ref (ad 16), .ref (ad 17), .ref (ad 18), .ref (ad 19), .int (iv 20), .ref (ad 21), .ref (ad 22), .ref (ad 23), .ref (ad 24), .ref (ad 25), .ref (ad 26), .ref (ad 27), .ref (ad 28), .int (iv 29), .ref (ad 30), .ref (ad 31), .int (iv 32), .int (iv 33), .int (iv 34), .int (iv 35), .long tl, .int (nI 1), .int (nI (gm_name cs (sA i0) (eA i0))), .int (nI 2), .int (nI (eA i0)), .ref (ad 41), .ref (ad 42), .int (iv 43)])) := ⟨_, rfl⟩
                          rw [← u1269] at w
                          have k1267 : pd_kq y h1255 h1266 := by rw [u1269]; exact pd_up_kq
                          have f1268 : h1266 y = some (20, .inr (10, [.ref (ad 0), .ref (ad 1), .ref (ad 2), .int (iv 3), .int (iv 4), .int (iv 5), .ref (ad 6), .ref (ad 7), .ref (ad 8), .ref (ad 9), .ref (ad 10), .ref (ad 11), .int (iv 12), .ref (ad 13), .ref (ad 14), .ref (ad 15), .ref (ad 16), .ref (ad 17), .ref (ad 18), .ref (ad 19), .int (iv 20), .ref (ad 21), .ref (ad 22), .ref (ad 23), .ref (ad 24), .ref (ad 25), .ref (ad 26), .ref (ad 27), .ref (ad 28), .int (iv 29), .ref (ad 30), .ref (ad 31), .int (iv 32), .int (iv 33), .int (iv 34), .int (iv 35), .long tl, .int (nI 1), .int (nI (gm_name cs (sA i0) (eA i0))), .int (nI 2), .int (nI (eA i0)), .ref (ad 41), .ref (ad 42), .int (iv 43)])) := by rw [u1269]; exact pd_up_s _ _ _
                          have f1270 := k1267 _ _ (pd_ne f1259 f1257 (by simp)) f1259
                          have f1271 := k1267 _ _ (pd_ne f1260 f1257 (by simp)) f1260
                          have f1272 := k1267 _ _ (pd_ne f1261 f1257 (by simp)) f1261
                          refine lv_aload_n hx hb d_p15m16_225 rfl (lv_at hl 2 rfl) ?_
                          refine lv_iload_n hx hb d_p15m16_226 rfl (lv_at hl 0 rfl) ?_
                          refine lv_iconst (v := nI 1) hx hb d_p15m16_227 (by decide) ?_
                          refine pd_iadd hx hb d_p15m16_228 ?_
                          refine pd_put (ty := .int) X w f1268 hz_y rfl 40 (by decide) mT_1179 rfl rfl (by decide +kernel) rfl rfl (Nat.le_of_ble_eq_true rfl) d_p15m16_229 (fun H locs w => ?_)
                          have w : pd_w G s H locs (pd_up h1266 y (20, .inr (10, [.ref (ad 0), .ref (ad 1), .ref (ad 2), .int (iv 3), .int (iv 4), .int (iv 5), .ref (ad 6), .ref (ad 7), .ref (ad 8), .ref (ad 9), .ref (ad 10), .ref (ad 11), .int (iv 12), .ref (ad 13), .ref (ad 14), .ref (ad 15), .ref (ad 16), .ref (ad 17), .ref (ad 18), .ref (ad 19), .int (iv 20), .ref (ad 21), .ref (ad 22), .ref (ad 23), .ref (ad 24), .ref (ad 25), .ref (ad 26), .ref (ad 27), .ref (ad 28), .int (iv 29), .ref (ad 30), .ref (ad 31), .int (iv 32), .int (iv 33), .int (iv 34), .int (iv 35), .long tl, .int (nI 1), .int (nI (gm_name cs (sA i0) (eA i0))), .int (nI 2), .int (nI (((gm_name cs (sA i0) (eA i0)) + 2) + 1)), .ref (ad 41), .ref (ad 42), .int (iv 43)]))) := w
                          obtain ⟨h1273, u1276⟩ : ∃ z, z = pd_up h1266 y (20, .inr (10, [.ref (ad 0), .ref (ad 1), .ref (ad 2), .int (iv 3), .int (iv 4), .int (iv 5), .ref (ad 6), .ref (ad 7), .ref (ad 8), .ref (ad 9), .ref (ad 10), .ref (ad 11), .int (iv 12), .ref (ad 13), .ref (ad 14), .ref (ad 15), .ref (ad 16), .ref (ad 17), .ref (ad 18), .ref (ad 19), .int (iv 20), .ref (ad 21), .ref (ad 22), .ref (ad 23), .ref (ad 24), .ref (ad 25), .ref (ad 26), .ref (ad 27), .ref (ad 28), .int (iv 29), .ref (ad 30), .ref (ad 31), .int (iv 32), .int (iv 33), .int (iv 34), .int (iv 35), .long tl, .int (nI 1), .int (nI (gm_name cs (sA i0) (eA i0))), .int (nI 2), .int (nI (((gm_name cs (sA i0) (eA i0)) + 2) + 1)), .ref (ad 41), .ref (ad 42), .int (iv 43)])) := ⟨_, rfl⟩
                          rw [← u1276] at w
                          have k1274 : pd_kq y h1266 h1273 := by rw [u1276]; exact pd_up_kq
                          have f1275 : h1273 y = some (20, .inr (10, [.ref (ad 0), .ref (ad 1), .ref (ad 2), .int (iv 3), .int (iv 4), .int (iv 5), .ref (ad 6), .ref (ad 7), .ref (ad 8), .ref (ad 9), .ref (ad 10), .ref (ad 11), .int (iv 12), .ref (ad 13), .ref (ad 14), .ref (ad 15), .ref (ad 16), .ref (ad 17), .ref (ad 18), .ref (ad 19), .int (iv 20), .ref (ad 21), .ref (ad 22), .ref (ad 23), .ref (ad 24), .ref (ad 25), .ref (ad 26), .ref (ad 27), .ref (ad 28), .int (iv 29), .ref (ad 30), .ref (ad 31), .int (iv 32), .int (iv 33), .int (iv 34), .int (iv 35), .long tl, .int (nI 1), .int (nI (gm_name cs (sA i0) (eA i0))), .int (nI 2), .int (nI (((gm_name cs (sA i0) (eA i0)) + 2) + 1)), .ref (ad 41), .ref (ad 42), .int (iv 43)])) := by rw [u1276]; exact pd_up_s _ _ _
                          have f1277 := k1274 _ _ (pd_ne f1270 f1268 (by simp)) f1270
                          have f1278 := k1274 _ _ (pd_ne f1271 f1268 (by simp)) f1271
                          have f1279 := k1274 _ _ (pd_ne f1272 f1268 (by simp)) f1272
                          refine lv_aload_n hx hb d_p15m16_232 rfl (lv_at hl 2 rfl) ?_
                          refine pd_get X w f1275 rfl 39 (by decide) mT_1178 rfl rfl d_p15m16_233 ?_
                          refine lv_iconst (v := nI 1) hx hb d_p15m16_236 (by decide) ?_
                          refine pd_jeq (tgt := 252) hx hb d_p15m16_237 (by decide) (by decide) (by decide) (fun q => absurd q (by decide)) (fun _ => ?_)
                          refine lv_aload_n hx hb d_p15m16_240 rfl (lv_at hl 2 rfl) ?_
                          refine lv_iload_n hx hb d_p15m16_241 rfl (lv_at hl 0 rfl) ?_
                          refine lv_iconst (v := nI 1) hx hb d_p15m16_242 (by decide) ?_
                          refine pd_iadd hx hb d_p15m16_243 ?_
                          refine lv_iload_n hx hb d_p15m16_244 rfl (lv_at hl 1 rfl) ?_
                          refine pd_cV (a := y) (As := [.int (nI (((gm_name cs (sA i0) (eA i0)) + 2) + 1)), .int (nI (eA i0))]) (rest := []) X w f1275 rfl (c_PolicyDeskModel_behindPart l G h1273 (ad := ad) (fv := fv) (iv := pd_fu (pd_fu (pd_fu (pd_fu iv 37 (nI 1)) 38 (nI (gm_name cs (sA i0) (eA i0)))) 39 (nI 2)) 40 (nI (((gm_name cs (sA i0) (eA i0)) + 2) + 1))) (tl := tl) (pd_MO.of (fv2 := fv) (iv2 := pd_fu (pd_fu (pd_fu (pd_fu iv 37 (nI 1)) 38 (nI (gm_name cs (sA i0) (eA i0)))) 39 (nI 2)) 40 (nI (((gm_name cs (sA i0) (eA i0)) + 2) + 1))) (tl2 := tl) (ts := [20]) hMO (pd_kx.tr (pd_kx.tr (pd_kx.tr (pd_kx.tr (pd_kx.tr (pd_kx.tr (pd_kx.tr (pd_kx.tr (pd_kq.kx (k2) hy0) (pd_kq.kx (k9) f3)) (pd_kq.kx (k1002) f10)) (pd_kq.kx (k1009) f1003)) (pd_kq.kx (k1242) f1010)) (pd_kq.kx (k1249) f1243)) (pd_kq.kx (k1256) f1250)) (pd_kq.kx (k1267) f1257)) (pd_kq.kx (k1274) f1268)) f1275 (fun j hj => Or.inr ⟨fun z => by first | (simp at z; done) | (simp at z; omega), rfl⟩)) hL (by omega) (by omega)) ok_PolicyDeskModel_behindPart ⟨mT_1315, sT_19⟩ mT_1313 ⟨by decide, by decide⟩ rfl hl.1 rfl (Nat.le_of_ble_eq_true rfl) d_p15m16_245 ⟨by decide, by decide⟩ (fun r1281 h1282 H locs hp1283 w => ?_)
                          refine W.widen (k := 0) (n := 0) (by decide) (by decide) ?_
                          obtain ⟨e1284, rfl⟩ := hp1283
                          have hpl := gm_part_le (cs := cs) (x := (gm_name cs (sA i0) (eA i0)) + 2 + 1) (to := eA i0) (by omega)
                          refine lv_iload_n hx hb d_p15m16_248 rfl (lv_at hl 1 rfl) ?_
                          refine pd_jne (tgt := 256) hx hb d_p15m16_249 (by decide) (by omega) (by omega) (fun q1285 => ?_) (fun q1285 => ?_)
                          · -- taken: 256
                            refine lv_iconst (v := nI 0) hx hb d_p15m16_256 (by decide) ?_
                            have hpt : gm_pt cs ((gm_name cs (sA i0) (eA i0)) + 2) (eA i0) = none := by unfold gm_pt; rw [if_neg (by omega), if_neg (by omega), if_neg (by omega), if_neg (by rw [← e1284]; omega)]
                            have hp : gm_pat cs (sA i0) (eA i0) = none := by unfold gm_pat; rw [hph]; simp only [hpt]
                            refine W.eq (g2 := F0 m 257 ls [.int (pd_b false)]) rfl ?_
                            exact pd_zret (v := false) X w ⟨by rw [hp]; rfl, pd_kx.tr (pd_kx.tr (pd_kx.tr (pd_kx.tr (pd_kx.tr (pd_kx.tr (pd_kx.tr (pd_kx.tr (pd_kq.kx (k2) hy0) (pd_kq.kx (k9) f3)) (pd_kq.kx (k1002) f10)) (pd_kq.kx (k1009) f1003)) (pd_kq.kx (k1242) f1010)) (pd_kq.kx (k1249) f1243)) (pd_kq.kx (k1256) f1250)) (pd_kq.kx (k1267) f1257)) (pd_kq.kx (k1274) f1268), (nI 1), (nI (gm_name cs (sA i0) (eA i0))), (nI 2), (nI (((gm_name cs (sA i0) (eA i0)) + 2) + 1)), (pd_MO.of (fv2 := fv) (iv2 := pd_fu (pd_fu (pd_fu (pd_fu iv 37 (nI 1)) 38 (nI (gm_name cs (sA i0) (eA i0)))) 39 (nI 2)) 40 (nI (((gm_name cs (sA i0) (eA i0)) + 2) + 1))) (tl2 := tl) (ts := [20]) hMO (pd_kx.tr (pd_kx.tr (pd_kx.tr (pd_kx.tr (pd_kx.tr (pd_kx.tr (pd_kx.tr (pd_kx.tr (pd_kq.kx (k2) hy0) (pd_kq.kx (k9) f3)) (pd_kq.kx (k1002) f10)) (pd_kq.kx (k1009) f1003)) (pd_kq.kx (k1242) f1010)) (pd_kq.kx (k1249) f1243)) (pd_kq.kx (k1256) f1250)) (pd_kq.kx (k1267) f1257)) (pd_kq.kx (k1274) f1268)) f1275 (fun j hj => Or.inr ⟨fun z => by first | (simp at z; done) | (simp at z; omega), rfl⟩)), fun t9 ht9 => by rw [hp] at ht9; cases ht9⟩ (by decide) (by decide) d_p15m16_257
                          · -- not taken: 252
                            refine lv_iconst (v := nI 1) hx hb d_p15m16_252 (by decide) ?_
                            refine lv_goto (tgt := 257) hx hb d_p15m16_253 (by decide) ?_
                            have hpt : gm_pt cs ((gm_name cs (sA i0) (eA i0)) + 2) (eA i0) = some (2, (gm_name cs (sA i0) (eA i0)) + 2 + 1) := by unfold gm_pt; rw [if_neg (by omega), if_neg (by omega), if_neg (by omega), if_pos (by rw [← e1284]; omega)]
                            have hp : gm_pat cs (sA i0) (eA i0) = some (1, gm_name cs (sA i0) (eA i0), 2, (gm_name cs (sA i0) (eA i0)) + 2 + 1) := by unfold gm_pat; rw [hph]; simp only [hpt]
                            refine W.eq (g2 := F0 m 257 ls [.int (pd_b true)]) rfl ?_
                            exact pd_zret (v := true) X w ⟨by rw [hp]; rfl, pd_kx.tr (pd_kx.tr (pd_kx.tr (pd_kx.tr (pd_kx.tr (pd_kx.tr (pd_kx.tr (pd_kx.tr (pd_kq.kx (k2) hy0) (pd_kq.kx (k9) f3)) (pd_kq.kx (k1002) f10)) (pd_kq.kx (k1009) f1003)) (pd_kq.kx (k1242) f1010)) (pd_kq.kx (k1249) f1243)) (pd_kq.kx (k1256) f1250)) (pd_kq.kx (k1267) f1257)) (pd_kq.kx (k1274) f1268), (nI 1), (nI (gm_name cs (sA i0) (eA i0))), (nI 2), (nI (((gm_name cs (sA i0) (eA i0)) + 2) + 1)), (pd_MO.of (fv2 := fv) (iv2 := pd_fu (pd_fu (pd_fu (pd_fu iv 37 (nI 1)) 38 (nI (gm_name cs (sA i0) (eA i0)))) 39 (nI 2)) 40 (nI (((gm_name cs (sA i0) (eA i0)) + 2) + 1))) (tl2 := tl) (ts := [20]) hMO (pd_kx.tr (pd_kx.tr (pd_kx.tr (pd_kx.tr (pd_kx.tr (pd_kx.tr (pd_kx.tr (pd_kx.tr (pd_kq.kx (k2) hy0) (pd_kq.kx (k9) f3)) (pd_kq.kx (k1002) f10)) (pd_kq.kx (k1009) f1003)) (pd_kq.kx (k1242) f1010)) (pd_kq.kx (k1249) f1243)) (pd_kq.kx (k1256) f1250)) (pd_kq.kx (k1267) f1257)) (pd_kq.kx (k1274) f1268)) f1275 (fun j hj => Or.inr ⟨fun z => by first | (simp at z; done) | (simp at z; omega), rfl⟩)), fun t9 ht9 => by rw [hp] at ht9; cases ht9; exact ⟨rfl, rfl, rfl, rfl⟩⟩ (by decide) (by decide) d_p15m16_257
                        · -- not taken: 210
                          refine lv_iload_n hx hb d_p15m16_210 rfl (lv_at hl 0 rfl) ?_
                          refine lv_iconst (v := nI 2) hx hb d_p15m16_211 (by decide) ?_
                          refine pd_iadd hx hb d_p15m16_212 ?_
                          refine lv_iload_n hx hb d_p15m16_213 rfl (lv_at hl 1 rfl) ?_
                          refine pd_jne (tgt := 221) hx hb d_p15m16_214 (by decide) (by omega) (by omega) (fun q1286 => ?_) (fun q1286 => ?_)
                          · -- taken: 221
                            refine lv_iconst (v := nI 2) hx hb d_p15m16_221 (by decide) ?_
                            refine pd_put (ty := .int) X w f1257 hz_y rfl 39 (by decide) mT_1178 rfl rfl (by decide +kernel) rfl rfl (Nat.le_of_ble_eq_true rfl) d_p15m16_222 (fun H locs w => ?_)
                            have w : pd_w G s H locs (pd_up h1255 y (20, .inr (10, [.ref (ad 0), .ref (ad 1), .ref (ad 2), .int (iv 3), .int (iv 4), .int (iv 5), .ref (ad 6), .ref (ad 7), .ref (ad 8), .ref (ad 9), .ref (ad 10), .ref (ad 11), .int (iv 12), .ref (ad 13), .ref (ad 14), .ref (ad 15), .ref (ad 16), .ref (ad 17), .ref (ad 18), .ref (ad 19), .int (iv 20), .ref (ad 21), .ref (ad 22), .ref (ad 23), .ref (ad 24), .ref (ad 25), .ref (ad 26), .ref (ad 27), .ref (ad 28), .int (iv 29), .ref (ad 30), .ref (ad 31), .int (iv 32), .int (iv 33), .int (iv 34), .int (iv 35), .long tl, .int (nI 1), .int (nI (gm_name cs (sA i0) (eA i0))), .int (nI 2), .int (nI (eA i0)), .ref (ad 41), .ref (ad 42), .int (iv 43)]))) := w
                            obtain ⟨h1287, u1290⟩ : ∃ z, z = pd_up h1255 y (20, .inr (10, [.ref (ad 0), .ref (ad 1), .ref (ad 2), .int (iv 3), .int (iv 4), .int (iv 5), .ref (ad 6), .ref (ad 7), .ref (ad 8), .ref (ad 9), .ref (ad 10), .ref (ad 11), .int (iv 12), .ref (ad 13), .ref (ad 14), .ref (ad 15), .ref (ad 16), .ref (ad 17), .ref (ad 18), .ref (ad 19), .int (iv 20), .ref (ad 21), .ref (ad 22), .ref (ad 23), .ref (ad 24), .ref (ad 25), .ref (ad 26), .ref (ad 27), .ref (ad 28), .int (iv 29), .ref (ad 30), .ref (ad 31), .int (iv 32), .int (iv 33), .int (iv 34), .int (iv 35), .long tl, .int (nI 1), .int (nI (gm_name cs (sA i0) (eA i0))), .int (nI 2), .int (nI (eA i0)), .ref (ad 41), .ref (ad 42), .int (iv 43)])) := ⟨_, rfl⟩
                            rw [← u1290] at w
                            have k1288 : pd_kq y h1255 h1287 := by rw [u1290]; exact pd_up_kq
                            have f1289 : h1287 y = some (20, .inr (10, [.ref (ad 0), .ref (ad 1), .ref (ad 2), .int (iv 3), .int (iv 4), .int (iv 5), .ref (ad 6), .ref (ad 7), .ref (ad 8), .ref (ad 9), .ref (ad 10), .ref (ad 11), .int (iv 12), .ref (ad 13), .ref (ad 14), .ref (ad 15), .ref (ad 16), .ref (ad 17), .ref (ad 18), .ref (ad 19), .int (iv 20), .ref (ad 21), .ref (ad 22), .ref (ad 23), .ref (ad 24), .ref (ad 25), .ref (ad 26), .ref (ad 27), .ref (ad 28), .int (iv 29), .ref (ad 30), .ref (ad 31), .int (iv 32), .int (iv 33), .int (iv 34), .int (iv 35), .long tl, .int (nI 1), .int (nI (gm_name cs (sA i0) (eA i0))), .int (nI 2), .int (nI (eA i0)), .ref (ad 41), .ref (ad 42), .int (iv 43)])) := by rw [u1290]; exact pd_up_s _ _ _
                            have f1291 := k1288 _ _ (pd_ne f1259 f1257 (by simp)) f1259
                            have f1292 := k1288 _ _ (pd_ne f1260 f1257 (by simp)) f1260
                            have f1293 := k1288 _ _ (pd_ne f1261 f1257 (by simp)) f1261
                            refine lv_aload_n hx hb d_p15m16_225 rfl (lv_at hl 2 rfl) ?_
                            refine lv_iload_n hx hb d_p15m16_226 rfl (lv_at hl 0 rfl) ?_
                            refine lv_iconst (v := nI 1) hx hb d_p15m16_227 (by decide) ?_
                            refine pd_iadd hx hb d_p15m16_228 ?_
                            refine pd_put (ty := .int) X w f1289 hz_y rfl 40 (by decide) mT_1179 rfl rfl (by decide +kernel) rfl rfl (Nat.le_of_ble_eq_true rfl) d_p15m16_229 (fun H locs w => ?_)
                            have w : pd_w G s H locs (pd_up h1287 y (20, .inr (10, [.ref (ad 0), .ref (ad 1), .ref (ad 2), .int (iv 3), .int (iv 4), .int (iv 5), .ref (ad 6), .ref (ad 7), .ref (ad 8), .ref (ad 9), .ref (ad 10), .ref (ad 11), .int (iv 12), .ref (ad 13), .ref (ad 14), .ref (ad 15), .ref (ad 16), .ref (ad 17), .ref (ad 18), .ref (ad 19), .int (iv 20), .ref (ad 21), .ref (ad 22), .ref (ad 23), .ref (ad 24), .ref (ad 25), .ref (ad 26), .ref (ad 27), .ref (ad 28), .int (iv 29), .ref (ad 30), .ref (ad 31), .int (iv 32), .int (iv 33), .int (iv 34), .int (iv 35), .long tl, .int (nI 1), .int (nI (gm_name cs (sA i0) (eA i0))), .int (nI 2), .int (nI (((gm_name cs (sA i0) (eA i0)) + 2) + 1)), .ref (ad 41), .ref (ad 42), .int (iv 43)]))) := w
                            obtain ⟨h1294, u1297⟩ : ∃ z, z = pd_up h1287 y (20, .inr (10, [.ref (ad 0), .ref (ad 1), .ref (ad 2), .int (iv 3), .int (iv 4), .int (iv 5), .ref (ad 6), .ref (ad 7), .ref (ad 8), .ref (ad 9), .ref (ad 10), .ref (ad 11), .int (iv 12), .ref (ad 13), .ref (ad 14), .ref (ad 15), .ref (ad 16), .ref (ad 17), .ref (ad 18), .ref (ad 19), .int (iv 20), .ref (ad 21), .ref (ad 22), .ref (ad 23), .ref (ad 24), .ref (ad 25), .ref (ad 26), .ref (ad 27), .ref (ad 28), .int (iv 29), .ref (ad 30), .ref (ad 31), .int (iv 32), .int (iv 33), .int (iv 34), .int (iv 35), .long tl, .int (nI 1), .int (nI (gm_name cs (sA i0) (eA i0))), .int (nI 2), .int (nI (((gm_name cs (sA i0) (eA i0)) + 2) + 1)), .ref (ad 41), .ref (ad 42), .int (iv 43)])) := ⟨_, rfl⟩
                            rw [← u1297] at w
                            have k1295 : pd_kq y h1287 h1294 := by rw [u1297]; exact pd_up_kq
                            have f1296 : h1294 y = some (20, .inr (10, [.ref (ad 0), .ref (ad 1), .ref (ad 2), .int (iv 3), .int (iv 4), .int (iv 5), .ref (ad 6), .ref (ad 7), .ref (ad 8), .ref (ad 9), .ref (ad 10), .ref (ad 11), .int (iv 12), .ref (ad 13), .ref (ad 14), .ref (ad 15), .ref (ad 16), .ref (ad 17), .ref (ad 18), .ref (ad 19), .int (iv 20), .ref (ad 21), .ref (ad 22), .ref (ad 23), .ref (ad 24), .ref (ad 25), .ref (ad 26), .ref (ad 27), .ref (ad 28), .int (iv 29), .ref (ad 30), .ref (ad 31), .int (iv 32), .int (iv 33), .int (iv 34), .int (iv 35), .long tl, .int (nI 1), .int (nI (gm_name cs (sA i0) (eA i0))), .int (nI 2), .int (nI (((gm_name cs (sA i0) (eA i0)) + 2) + 1)), .ref (ad 41), .ref (ad 42), .int (iv 43)])) := by rw [u1297]; exact pd_up_s _ _ _
                            have f1298 := k1295 _ _ (pd_ne f1291 f1289 (by simp)) f1291
                            have f1299 := k1295 _ _ (pd_ne f1292 f1289 (by simp)) f1292
                            have f1300 := k1295 _ _ (pd_ne f1293 f1289 (by simp)) f1293
                            refine lv_aload_n hx hb d_p15m16_232 rfl (lv_at hl 2 rfl) ?_
                            refine pd_get X w f1296 rfl 39 (by decide) mT_1178 rfl rfl d_p15m16_233 ?_
                            refine lv_iconst (v := nI 1) hx hb d_p15m16_236 (by decide) ?_
                            refine pd_jeq (tgt := 252) hx hb d_p15m16_237 (by decide) (by decide) (by decide) (fun q => absurd q (by decide)) (fun _ => ?_)
                            refine lv_aload_n hx hb d_p15m16_240 rfl (lv_at hl 2 rfl) ?_
                            refine lv_iload_n hx hb d_p15m16_241 rfl (lv_at hl 0 rfl) ?_
                            refine lv_iconst (v := nI 1) hx hb d_p15m16_242 (by decide) ?_
                            refine pd_iadd hx hb d_p15m16_243 ?_
                            refine lv_iload_n hx hb d_p15m16_244 rfl (lv_at hl 1 rfl) ?_
                            refine pd_cV (a := y) (As := [.int (nI (((gm_name cs (sA i0) (eA i0)) + 2) + 1)), .int (nI (eA i0))]) (rest := []) X w f1296 rfl (c_PolicyDeskModel_behindPart l G h1294 (ad := ad) (fv := fv) (iv := pd_fu (pd_fu (pd_fu (pd_fu iv 37 (nI 1)) 38 (nI (gm_name cs (sA i0) (eA i0)))) 39 (nI 2)) 40 (nI (((gm_name cs (sA i0) (eA i0)) + 2) + 1))) (tl := tl) (pd_MO.of (fv2 := fv) (iv2 := pd_fu (pd_fu (pd_fu (pd_fu iv 37 (nI 1)) 38 (nI (gm_name cs (sA i0) (eA i0)))) 39 (nI 2)) 40 (nI (((gm_name cs (sA i0) (eA i0)) + 2) + 1))) (tl2 := tl) (ts := [20]) hMO (pd_kx.tr (pd_kx.tr (pd_kx.tr (pd_kx.tr (pd_kx.tr (pd_kx.tr (pd_kx.tr (pd_kx.tr (pd_kq.kx (k2) hy0) (pd_kq.kx (k9) f3)) (pd_kq.kx (k1002) f10)) (pd_kq.kx (k1009) f1003)) (pd_kq.kx (k1242) f1010)) (pd_kq.kx (k1249) f1243)) (pd_kq.kx (k1256) f1250)) (pd_kq.kx (k1288) f1257)) (pd_kq.kx (k1295) f1289)) f1296 (fun j hj => Or.inr ⟨fun z => by first | (simp at z; done) | (simp at z; omega), rfl⟩)) hL (by omega) (by omega)) ok_PolicyDeskModel_behindPart ⟨mT_1315, sT_19⟩ mT_1313 ⟨by decide, by decide⟩ rfl hl.1 rfl (Nat.le_of_ble_eq_true rfl) d_p15m16_245 ⟨by decide, by decide⟩ (fun r1302 h1303 H locs hp1304 w => ?_)
                            refine W.widen (k := 0) (n := 0) (by decide) (by decide) ?_
                            obtain ⟨e1305, rfl⟩ := hp1304
                            have hpl := gm_part_le (cs := cs) (x := (gm_name cs (sA i0) (eA i0)) + 2 + 1) (to := eA i0) (by omega)
                            refine lv_iload_n hx hb d_p15m16_248 rfl (lv_at hl 1 rfl) ?_
                            refine pd_jne (tgt := 256) hx hb d_p15m16_249 (by decide) (by omega) (by omega) (fun q1306 => ?_) (fun q1306 => ?_)
                            · -- taken: 256
                              refine lv_iconst (v := nI 0) hx hb d_p15m16_256 (by decide) ?_
                              have hpt : gm_pt cs ((gm_name cs (sA i0) (eA i0)) + 2) (eA i0) = none := by unfold gm_pt; rw [if_neg (by omega), if_neg (by omega), if_neg (by omega), if_neg (by rw [← e1305]; omega)]
                              have hp : gm_pat cs (sA i0) (eA i0) = none := by unfold gm_pat; rw [hph]; simp only [hpt]
                              refine W.eq (g2 := F0 m 257 ls [.int (pd_b false)]) rfl ?_
                              exact pd_zret (v := false) X w ⟨by rw [hp]; rfl, pd_kx.tr (pd_kx.tr (pd_kx.tr (pd_kx.tr (pd_kx.tr (pd_kx.tr (pd_kx.tr (pd_kx.tr (pd_kq.kx (k2) hy0) (pd_kq.kx (k9) f3)) (pd_kq.kx (k1002) f10)) (pd_kq.kx (k1009) f1003)) (pd_kq.kx (k1242) f1010)) (pd_kq.kx (k1249) f1243)) (pd_kq.kx (k1256) f1250)) (pd_kq.kx (k1288) f1257)) (pd_kq.kx (k1295) f1289), (nI 1), (nI (gm_name cs (sA i0) (eA i0))), (nI 2), (nI (((gm_name cs (sA i0) (eA i0)) + 2) + 1)), (pd_MO.of (fv2 := fv) (iv2 := pd_fu (pd_fu (pd_fu (pd_fu iv 37 (nI 1)) 38 (nI (gm_name cs (sA i0) (eA i0)))) 39 (nI 2)) 40 (nI (((gm_name cs (sA i0) (eA i0)) + 2) + 1))) (tl2 := tl) (ts := [20]) hMO (pd_kx.tr (pd_kx.tr (pd_kx.tr (pd_kx.tr (pd_kx.tr (pd_kx.tr (pd_kx.tr (pd_kx.tr (pd_kq.kx (k2) hy0) (pd_kq.kx (k9) f3)) (pd_kq.kx (k1002) f10)) (pd_kq.kx (k1009) f1003)) (pd_kq.kx (k1242) f1010)) (pd_kq.kx (k1249) f1243)) (pd_kq.kx (k1256) f1250)) (pd_kq.kx (k1288) f1257)) (pd_kq.kx (k1295) f1289)) f1296 (fun j hj => Or.inr ⟨fun z => by first | (simp at z; done) | (simp at z; omega), rfl⟩)), fun t9 ht9 => by rw [hp] at ht9; cases ht9⟩ (by decide) (by decide) d_p15m16_257
                            · -- not taken: 252
                              refine lv_iconst (v := nI 1) hx hb d_p15m16_252 (by decide) ?_
                              refine lv_goto (tgt := 257) hx hb d_p15m16_253 (by decide) ?_
                              have hpt : gm_pt cs ((gm_name cs (sA i0) (eA i0)) + 2) (eA i0) = some (2, (gm_name cs (sA i0) (eA i0)) + 2 + 1) := by unfold gm_pt; rw [if_neg (by omega), if_neg (by omega), if_neg (by omega), if_pos (by rw [← e1305]; omega)]
                              have hp : gm_pat cs (sA i0) (eA i0) = some (1, gm_name cs (sA i0) (eA i0), 2, (gm_name cs (sA i0) (eA i0)) + 2 + 1) := by unfold gm_pat; rw [hph]; simp only [hpt]
                              refine W.eq (g2 := F0 m 257 ls [.int (pd_b true)]) rfl ?_
                              exact pd_zret (v := true) X w ⟨by rw [hp]; rfl, pd_kx.tr (pd_kx.tr (pd_kx.tr (pd_kx.tr (pd_kx.tr (pd_kx.tr (pd_kx.tr (pd_kx.tr (pd_kq.kx (k2) hy0) (pd_kq.kx (k9) f3)) (pd_kq.kx (k1002) f10)) (pd_kq.kx (k1009) f1003)) (pd_kq.kx (k1242) f1010)) (pd_kq.kx (k1249) f1243)) (pd_kq.kx (k1256) f1250)) (pd_kq.kx (k1288) f1257)) (pd_kq.kx (k1295) f1289), (nI 1), (nI (gm_name cs (sA i0) (eA i0))), (nI 2), (nI (((gm_name cs (sA i0) (eA i0)) + 2) + 1)), (pd_MO.of (fv2 := fv) (iv2 := pd_fu (pd_fu (pd_fu (pd_fu iv 37 (nI 1)) 38 (nI (gm_name cs (sA i0) (eA i0)))) 39 (nI 2)) 40 (nI (((gm_name cs (sA i0) (eA i0)) + 2) + 1))) (tl2 := tl) (ts := [20]) hMO (pd_kx.tr (pd_kx.tr (pd_kx.tr (pd_kx.tr (pd_kx.tr (pd_kx.tr (pd_kx.tr (pd_kx.tr (pd_kq.kx (k2) hy0) (pd_kq.kx (k9) f3)) (pd_kq.kx (k1002) f10)) (pd_kq.kx (k1009) f1003)) (pd_kq.kx (k1242) f1010)) (pd_kq.kx (k1249) f1243)) (pd_kq.kx (k1256) f1250)) (pd_kq.kx (k1288) f1257)) (pd_kq.kx (k1295) f1289)) f1296 (fun j hj => Or.inr ⟨fun z => by first | (simp at z; done) | (simp at z; omega), rfl⟩)), fun t9 ht9 => by rw [hp] at ht9; cases ht9; exact ⟨rfl, rfl, rfl, rfl⟩⟩ (by decide) (by decide) d_p15m16_257
                          · -- not taken: 217
                            refine lv_iconst (v := nI 1) hx hb d_p15m16_217 (by decide) ?_
                            refine lv_goto (tgt := 222) hx hb d_p15m16_218 (by decide) ?_
                            refine pd_put (ty := .int) X w f1257 hz_y rfl 39 (by decide) mT_1178 rfl rfl (by decide +kernel) rfl rfl (Nat.le_of_ble_eq_true rfl) d_p15m16_222 (fun H locs w => ?_)
                            have w : pd_w G s H locs (pd_up h1255 y (20, .inr (10, [.ref (ad 0), .ref (ad 1), .ref (ad 2), .int (iv 3), .int (iv 4), .int (iv 5), .ref (ad 6), .ref (ad 7), .ref (ad 8), .ref (ad 9), .ref (ad 10), .ref (ad 11), .int (iv 12), .ref (ad 13), .ref (ad 14), .ref (ad 15), .ref (ad 16), .ref (ad 17), .ref (ad 18), .ref (ad 19), .int (iv 20), .ref (ad 21), .ref (ad 22), .ref (ad 23), .ref (ad 24), .ref (ad 25), .ref (ad 26), .ref (ad 27), .ref (ad 28), .int (iv 29), .ref (ad 30), .ref (ad 31), .int (iv 32), .int (iv 33), .int (iv 34), .int (iv 35), .long tl, .int (nI 1), .int (nI (gm_name cs (sA i0) (eA i0))), .int (nI 1), .int (nI (eA i0)), .ref (ad 41), .ref (ad 42), .int (iv 43)]))) := w
                            obtain ⟨h1307, u1310⟩ : ∃ z, z = pd_up h1255 y (20, .inr (10, [.ref (ad 0), .ref (ad 1), .ref (ad 2), .int (iv 3), .int (iv 4), .int (iv 5), .ref (ad 6), .ref (ad 7), .ref (ad 8), .ref (ad 9), .ref (ad 10), .ref (ad 11), .int (iv 12), .ref (ad 13), .ref (ad 14), .ref (ad 15), .ref (ad 16), .ref (ad 17), .ref (ad 18), .ref (ad 19), .int (iv 20), .ref (ad 21), .ref (ad 22), .ref (ad 23), .ref (ad 24), .ref (ad 25), .ref (ad 26), .ref (ad 27), .ref (ad 28), .int (iv 29), .ref (ad 30), .ref (ad 31), .int (iv 32), .int (iv 33), .int (iv 34), .int (iv 35), .long tl, .int (nI 1), .int (nI (gm_name cs (sA i0) (eA i0))), .int (nI 1), .int (nI (eA i0)), .ref (ad 41), .ref (ad 42), .int (iv 43)])) := ⟨_, rfl⟩
                            rw [← u1310] at w
                            have k1308 : pd_kq y h1255 h1307 := by rw [u1310]; exact pd_up_kq
                            have f1309 : h1307 y = some (20, .inr (10, [.ref (ad 0), .ref (ad 1), .ref (ad 2), .int (iv 3), .int (iv 4), .int (iv 5), .ref (ad 6), .ref (ad 7), .ref (ad 8), .ref (ad 9), .ref (ad 10), .ref (ad 11), .int (iv 12), .ref (ad 13), .ref (ad 14), .ref (ad 15), .ref (ad 16), .ref (ad 17), .ref (ad 18), .ref (ad 19), .int (iv 20), .ref (ad 21), .ref (ad 22), .ref (ad 23), .ref (ad 24), .ref (ad 25), .ref (ad 26), .ref (ad 27), .ref (ad 28), .int (iv 29), .ref (ad 30), .ref (ad 31), .int (iv 32), .int (iv 33), .int (iv 34), .int (iv 35), .long tl, .int (nI 1), .int (nI (gm_name cs (sA i0) (eA i0))), .int (nI 1), .int (nI (eA i0)), .ref (ad 41), .ref (ad 42), .int (iv 43)])) := by rw [u1310]; exact pd_up_s _ _ _
                            have f1311 := k1308 _ _ (pd_ne f1259 f1257 (by simp)) f1259
                            have f1312 := k1308 _ _ (pd_ne f1260 f1257 (by simp)) f1260
                            have f1313 := k1308 _ _ (pd_ne f1261 f1257 (by simp)) f1261
                            refine lv_aload_n hx hb d_p15m16_225 rfl (lv_at hl 2 rfl) ?_
                            refine lv_iload_n hx hb d_p15m16_226 rfl (lv_at hl 0 rfl) ?_
                            refine lv_iconst (v := nI 1) hx hb d_p15m16_227 (by decide) ?_
                            refine pd_iadd hx hb d_p15m16_228 ?_
                            refine pd_put (ty := .int) X w f1309 hz_y rfl 40 (by decide) mT_1179 rfl rfl (by decide +kernel) rfl rfl (Nat.le_of_ble_eq_true rfl) d_p15m16_229 (fun H locs w => ?_)
                            have w : pd_w G s H locs (pd_up h1307 y (20, .inr (10, [.ref (ad 0), .ref (ad 1), .ref (ad 2), .int (iv 3), .int (iv 4), .int (iv 5), .ref (ad 6), .ref (ad 7), .ref (ad 8), .ref (ad 9), .ref (ad 10), .ref (ad 11), .int (iv 12), .ref (ad 13), .ref (ad 14), .ref (ad 15), .ref (ad 16), .ref (ad 17), .ref (ad 18), .ref (ad 19), .int (iv 20), .ref (ad 21), .ref (ad 22), .ref (ad 23), .ref (ad 24), .ref (ad 25), .ref (ad 26), .ref (ad 27), .ref (ad 28), .int (iv 29), .ref (ad 30), .ref (ad 31), .int (iv 32), .int (iv 33), .int (iv 34), .int (iv 35), .long tl, .int (nI 1), .int (nI (gm_name cs (sA i0) (eA i0))), .int (nI 1), .int (nI (((gm_name cs (sA i0) (eA i0)) + 2) + 1)), .ref (ad 41), .ref (ad 42), .int (iv 43)]))) := w
                            obtain ⟨h1314, u1317⟩ : ∃ z, z = pd_up h1307 y (20, .inr (10, [.ref (ad 0), .ref (ad 1), .ref (ad 2), .int (iv 3), .int (iv 4), .int (iv 5), .ref (ad 6), .ref (ad 7), .ref (ad 8), .ref (ad 9), .ref (ad 10), .ref (ad 11), .int (iv 12), .ref (ad 13), .ref (ad 14), .ref (ad 15), .ref (ad 16), .ref (ad 17), .ref (ad 18), .ref (ad 19), .int (iv 20), .ref (ad 21), .ref (ad 22), .ref (ad 23), .ref (ad 24), .ref (ad 25), .ref (ad 26), .ref (ad 27), .ref (ad 28), .int (iv 29), .ref (ad 30), .ref (ad 31), .int (iv 32), .int (iv 33), .int (iv 34), .int (iv 35), .long tl, .int (nI 1), .int (nI (gm_name cs (sA i0) (eA i0))), .int (nI 1), .int (nI (((gm_name cs (sA i0) (eA i0)) + 2) + 1)), .ref (ad 41), .ref (ad 42), .int (iv 43)])) := ⟨_, rfl⟩
                            rw [← u1317] at w
                            have k1315 : pd_kq y h1307 h1314 := by rw [u1317]; exact pd_up_kq
                            have f1316 : h1314 y = some (20, .inr (10, [.ref (ad 0), .ref (ad 1), .ref (ad 2), .int (iv 3), .int (iv 4), .int (iv 5), .ref (ad 6), .ref (ad 7), .ref (ad 8), .ref (ad 9), .ref (ad 10), .ref (ad 11), .int (iv 12), .ref (ad 13), .ref (ad 14), .ref (ad 15), .ref (ad 16), .ref (ad 17), .ref (ad 18), .ref (ad 19), .int (iv 20), .ref (ad 21), .ref (ad 22), .ref (ad 23), .ref (ad 24), .ref (ad 25), .ref (ad 26), .ref (ad 27), .ref (ad 28), .int (iv 29), .ref (ad 30), .ref (ad 31), .int (iv 32), .int (iv 33), .int (iv 34), .int (iv 35), .long tl, .int (nI 1), .int (nI (gm_name cs (sA i0) (eA i0))), .int (nI 1), .int (nI (((gm_name cs (sA i0) (eA i0)) + 2) + 1)), .ref (ad 41), .ref (ad 42), .int (iv 43)])) := by rw [u1317]; exact pd_up_s _ _ _
                            have f1318 := k1315 _ _ (pd_ne f1311 f1309 (by simp)) f1311
                            have f1319 := k1315 _ _ (pd_ne f1312 f1309 (by simp)) f1312
                            have f1320 := k1315 _ _ (pd_ne f1313 f1309 (by simp)) f1313
                            refine lv_aload_n hx hb d_p15m16_232 rfl (lv_at hl 2 rfl) ?_
                            refine pd_get X w f1316 rfl 39 (by decide) mT_1178 rfl rfl d_p15m16_233 ?_
                            refine lv_iconst (v := nI 1) hx hb d_p15m16_236 (by decide) ?_
                            refine pd_jeq (tgt := 252) hx hb d_p15m16_237 (by decide) (by decide) (by decide) (fun _ => ?_) (fun q => absurd q (by decide))
                            refine lv_iconst (v := nI 1) hx hb d_p15m16_252 (by decide) ?_
                            refine lv_goto (tgt := 257) hx hb d_p15m16_253 (by decide) ?_
                            have hpt : gm_pt cs ((gm_name cs (sA i0) (eA i0)) + 2) (eA i0) = some (1, (gm_name cs (sA i0) (eA i0)) + 2 + 1) := by unfold gm_pt; rw [if_neg (by omega), if_neg (by omega), if_pos (by omega)]
                            have hp : gm_pat cs (sA i0) (eA i0) = some (1, gm_name cs (sA i0) (eA i0), 1, (gm_name cs (sA i0) (eA i0)) + 2 + 1) := by unfold gm_pat; rw [hph]; simp only [hpt]
                            refine W.eq (g2 := F0 m 257 ls [.int (pd_b true)]) rfl ?_
                            exact pd_zret (v := true) X w ⟨by rw [hp]; rfl, pd_kx.tr (pd_kx.tr (pd_kx.tr (pd_kx.tr (pd_kx.tr (pd_kx.tr (pd_kx.tr (pd_kx.tr (pd_kq.kx (k2) hy0) (pd_kq.kx (k9) f3)) (pd_kq.kx (k1002) f10)) (pd_kq.kx (k1009) f1003)) (pd_kq.kx (k1242) f1010)) (pd_kq.kx (k1249) f1243)) (pd_kq.kx (k1256) f1250)) (pd_kq.kx (k1308) f1257)) (pd_kq.kx (k1315) f1309), (nI 1), (nI (gm_name cs (sA i0) (eA i0))), (nI 1), (nI (((gm_name cs (sA i0) (eA i0)) + 2) + 1)), (pd_MO.of (fv2 := fv) (iv2 := pd_fu (pd_fu (pd_fu (pd_fu iv 37 (nI 1)) 38 (nI (gm_name cs (sA i0) (eA i0)))) 39 (nI 1)) 40 (nI (((gm_name cs (sA i0) (eA i0)) + 2) + 1))) (tl2 := tl) (ts := [20]) hMO (pd_kx.tr (pd_kx.tr (pd_kx.tr (pd_kx.tr (pd_kx.tr (pd_kx.tr (pd_kx.tr (pd_kx.tr (pd_kq.kx (k2) hy0) (pd_kq.kx (k9) f3)) (pd_kq.kx (k1002) f10)) (pd_kq.kx (k1009) f1003)) (pd_kq.kx (k1242) f1010)) (pd_kq.kx (k1249) f1243)) (pd_kq.kx (k1256) f1250)) (pd_kq.kx (k1308) f1257)) (pd_kq.kx (k1315) f1309)) f1316 (fun j hj => Or.inr ⟨fun z => by first | (simp at z; done) | (simp at z; omega), rfl⟩)), fun t9 ht9 => by rw [hp] at ht9; cases ht9; exact ⟨rfl, rfl, rfl, rfl⟩⟩ (by decide) (by decide) d_p15m16_257
                      · -- not taken: 194
                        refine lv_iconst (v := nI 0) hx hb d_p15m16_194 (by decide) ?_
                        have hpt : gm_pt cs ((gm_name cs (sA i0) (eA i0)) + 2) (eA i0) = none := by unfold gm_pt; rw [if_neg (by omega), if_pos (by omega)]
                        have hp : gm_pat cs (sA i0) (eA i0) = none := by unfold gm_pat; rw [hph]; simp only [hpt]
                        refine W.eq (g2 := F0 m 195 ls [.int (pd_b false)]) rfl ?_
                        exact pd_zret (v := false) X w ⟨by rw [hp]; rfl, pd_kx.tr (pd_kx.tr (pd_kx.tr (pd_kx.tr (pd_kx.tr (pd_kx.tr (pd_kq.kx (k2) hy0) (pd_kq.kx (k9) f3)) (pd_kq.kx (k1002) f10)) (pd_kq.kx (k1009) f1003)) (pd_kq.kx (k1242) f1010)) (pd_kq.kx (k1249) f1243)) (pd_kq.kx (k1256) f1250), (nI 1), (nI (gm_name cs (sA i0) (eA i0))), (nI 0), (nI (eA i0)), (pd_MO.of (fv2 := fv) (iv2 := pd_fu (pd_fu (pd_fu (pd_fu iv 37 (nI 1)) 38 (nI (gm_name cs (sA i0) (eA i0)))) 39 (nI 0)) 40 (nI (eA i0))) (tl2 := tl) (ts := [20]) hMO (pd_kx.tr (pd_kx.tr (pd_kx.tr (pd_kx.tr (pd_kx.tr (pd_kx.tr (pd_kq.kx (k2) hy0) (pd_kq.kx (k9) f3)) (pd_kq.kx (k1002) f10)) (pd_kq.kx (k1009) f1003)) (pd_kq.kx (k1242) f1010)) (pd_kq.kx (k1249) f1243)) (pd_kq.kx (k1256) f1250)) f1257 (fun j hj => Or.inr ⟨fun z => by first | (simp at z; done) | (simp at z; omega), rfl⟩)), fun t9 ht9 => by rw [hp] at ht9; cases ht9⟩ (by decide) (by decide) d_p15m16_195
                  · -- not taken: 174
                    refine lv_iconst (v := nI 1) hx hb d_p15m16_174 (by decide) ?_
                    have hpt : gm_pt cs ((gm_name cs (sA i0) (eA i0)) + 2) (eA i0) = some (0, eA i0) := by unfold gm_pt; rw [if_pos (by omega)]
                    have hp : gm_pat cs (sA i0) (eA i0) = some (1, gm_name cs (sA i0) (eA i0), 0, eA i0) := by unfold gm_pat; rw [hph]; simp only [hpt]
                    refine W.eq (g2 := F0 m 175 ls [.int (pd_b true)]) rfl ?_
                    exact pd_zret (v := true) X w ⟨by rw [hp]; rfl, pd_kx.tr (pd_kx.tr (pd_kx.tr (pd_kx.tr (pd_kx.tr (pd_kx.tr (pd_kq.kx (k2) hy0) (pd_kq.kx (k9) f3)) (pd_kq.kx (k1002) f10)) (pd_kq.kx (k1009) f1003)) (pd_kq.kx (k1242) f1010)) (pd_kq.kx (k1249) f1243)) (pd_kq.kx (k1256) f1250), (nI 1), (nI (gm_name cs (sA i0) (eA i0))), (nI 0), (nI (eA i0)), (pd_MO.of (fv2 := fv) (iv2 := pd_fu (pd_fu (pd_fu (pd_fu iv 37 (nI 1)) 38 (nI (gm_name cs (sA i0) (eA i0)))) 39 (nI 0)) 40 (nI (eA i0))) (tl2 := tl) (ts := [20]) hMO (pd_kx.tr (pd_kx.tr (pd_kx.tr (pd_kx.tr (pd_kx.tr (pd_kx.tr (pd_kq.kx (k2) hy0) (pd_kq.kx (k9) f3)) (pd_kq.kx (k1002) f10)) (pd_kq.kx (k1009) f1003)) (pd_kq.kx (k1242) f1010)) (pd_kq.kx (k1249) f1243)) (pd_kq.kx (k1256) f1250)) f1257 (fun j hj => Or.inr ⟨fun z => by first | (simp at z; done) | (simp at z; omega), rfl⟩)), fun t9 ht9 => by rw [hp] at ht9; cases ht9; exact ⟨rfl, rfl, rfl, rfl⟩⟩ (by decide) (by decide) d_p15m16_175
                · -- not taken: 129
                  refine lv_aload_n hx hb d_p15m16_129 rfl (lv_at hl 2 rfl) ?_
                  refine pd_get X w f1010 rfl 0 (by decide) mT_1139 rfl rfl d_p15m16_130 ?_
                  refine lv_iload_n hx hb d_p15m16_133 rfl (lv_at hl 0 rfl) ?_
                  refine lv_iconst (v := nI 2) hx hb d_p15m16_134 (by decide) ?_
                  refine pd_iadd hx hb d_p15m16_135 ?_
                  refine pd_iald X w f1012 (by omega) (by omega) d_p15m16_136 ?_
                  refine pd_top (v' := .int (nI (cs.getD ((gm_name cs (sA i0) (eA i0)) + 2) 0))) (congrArg Value.int (hln _ (by omega))) ?_
                  have := tx_lt hlc ((gm_name cs (sA i0) (eA i0)) + 2)
                  refine lv_bipush (v := nI 42) hx hb d_p15m16_137 (by decide) ?_
                  refine pd_jne (tgt := 146) hx hb d_p15m16_139 (by decide) (by omega) (by omega) (fun q1322 => ?_) (fun q1322 => ?_)
                  · -- taken: 146
                    refine lv_iconst (v := nI 1) hx hb d_p15m16_146 (by decide) ?_
                    refine pd_put (ty := .int) X w f1010 hz_y rfl 37 (by decide) mT_1176 rfl rfl (by decide +kernel) rfl rfl (Nat.le_of_ble_eq_true rfl) d_p15m16_147 (fun H locs w => ?_)
                    have w : pd_w G s H locs (pd_up h1008 y (20, .inr (10, [.ref (ad 0), .ref (ad 1), .ref (ad 2), .int (iv 3), .int (iv 4), .int (iv 5), .ref (ad 6), .ref (ad 7), .ref (ad 8), .ref (ad 9), .ref (ad 10), .ref (ad 11), .int (iv 12), .ref (ad 13), .ref (ad 14), .ref (ad 15), .ref (ad 16), .ref (ad 17), .ref (ad 18), .ref (ad 19), .int (iv 20), .ref (ad 21), .ref (ad 22), .ref (ad 23), .ref (ad 24), .ref (ad 25), .ref (ad 26), .ref (ad 27), .ref (ad 28), .int (iv 29), .ref (ad 30), .ref (ad 31), .int (iv 32), .int (iv 33), .int (iv 34), .int (iv 35), .long tl, .int (nI 1), .int (nI (gm_name cs (sA i0) (eA i0))), .int (iv 39), .int (iv 40), .ref (ad 41), .ref (ad 42), .int (iv 43)]))) := w
                    obtain ⟨h1323, u1326⟩ : ∃ z, z = pd_up h1008 y (20, .inr (10, [.ref (ad 0), .ref (ad 1), .ref (ad 2), .int (iv 3), .int (iv 4), .int (iv 5), .ref (ad 6), .ref (ad 7), .ref (ad 8), .ref (ad 9), .ref (ad 10), .ref (ad 11), .int (iv 12), .ref (ad 13), .ref (ad 14), .ref (ad 15), .ref (ad 16), .ref (ad 17), .ref (ad 18), .ref (ad 19), .int (iv 20), .ref (ad 21), .ref (ad 22), .ref (ad 23), .ref (ad 24), .ref (ad 25), .ref (ad 26), .ref (ad 27), .ref (ad 28), .int (iv 29), .ref (ad 30), .ref (ad 31), .int (iv 32), .int (iv 33), .int (iv 34), .int (iv 35), .long tl, .int (nI 1), .int (nI (gm_name cs (sA i0) (eA i0))), .int (iv 39), .int (iv 40), .ref (ad 41), .ref (ad 42), .int (iv 43)])) := ⟨_, rfl⟩
                    rw [← u1326] at w
                    have k1324 : pd_kq y h1008 h1323 := by rw [u1326]; exact pd_up_kq
                    have f1325 : h1323 y = some (20, .inr (10, [.ref (ad 0), .ref (ad 1), .ref (ad 2), .int (iv 3), .int (iv 4), .int (iv 5), .ref (ad 6), .ref (ad 7), .ref (ad 8), .ref (ad 9), .ref (ad 10), .ref (ad 11), .int (iv 12), .ref (ad 13), .ref (ad 14), .ref (ad 15), .ref (ad 16), .ref (ad 17), .ref (ad 18), .ref (ad 19), .int (iv 20), .ref (ad 21), .ref (ad 22), .ref (ad 23), .ref (ad 24), .ref (ad 25), .ref (ad 26), .ref (ad 27), .ref (ad 28), .int (iv 29), .ref (ad 30), .ref (ad 31), .int (iv 32), .int (iv 33), .int (iv 34), .int (iv 35), .long tl, .int (nI 1), .int (nI (gm_name cs (sA i0) (eA i0))), .int (iv 39), .int (iv 40), .ref (ad 41), .ref (ad 42), .int (iv 43)])) := by rw [u1326]; exact pd_up_s _ _ _
                    have f1327 := k1324 _ _ (pd_ne f1012 f1010 (by simp)) f1012
                    have f1328 := k1324 _ _ (pd_ne f1013 f1010 (by simp)) f1013
                    have f1329 := k1324 _ _ (pd_ne f1014 f1010 (by simp)) f1014
                    refine lv_iload_n hx hb d_p15m16_150 rfl (lv_at hl 0 rfl) ?_
                    refine lv_iconst (v := nI 1) hx hb d_p15m16_151 (by decide) ?_
                    refine lv_aload_n hx hb d_p15m16_152 rfl (lv_at hl 2 rfl) ?_
                    refine pd_get X w f1325 rfl 37 (by decide) mT_1176 rfl rfl d_p15m16_153 ?_
                    refine pd_iadd hx hb d_p15m16_156 ?_
                    refine pd_iadd hx hb d_p15m16_157 ?_
                    refine lv_istore_n (lv' := [(2, .int (nI ((gm_name cs (sA i0) (eA i0)) + 2))), (3, .int (nI (eA i0))), (0, .ref y), (1, .int (nI i0))]) hx hb d_p15m16_158 rfl hl (by decide) rfl (fun ls hl => ?_)
                    have hph : gm_ph cs (sA i0) (eA i0) = some (1, gm_name cs (sA i0) (eA i0), (gm_name cs (sA i0) (eA i0)) + 2) := by unfold gm_ph; rw [if_neg (by omega), if_neg (by omega), if_pos (by omega), if_neg (by omega)]
                    refine lv_aload_n hx hb d_p15m16_159 rfl (lv_at hl 2 rfl) ?_
                    refine lv_iconst (v := nI 0) hx hb d_p15m16_160 (by decide) ?_
                    refine pd_put (ty := .int) X w f1325 hz_y rfl 39 (by decide) mT_1178 rfl rfl (by decide +kernel) rfl rfl (Nat.le_of_ble_eq_true rfl) d_p15m16_161 (fun H locs w => ?_)
                    have w : pd_w G s H locs (pd_up h1323 y (20, .inr (10, [.ref (ad 0), .ref (ad 1), .ref (ad 2), .int (iv 3), .int (iv 4), .int (iv 5), .ref (ad 6), .ref (ad 7), .ref (ad 8), .ref (ad 9), .ref (ad 10), .ref (ad 11), .int (iv 12), .ref (ad 13), .ref (ad 14), .ref (ad 15), .ref (ad 16), .ref (ad 17), .ref (ad 18), .ref (ad 19), .int (iv 20), .ref (ad 21), .ref (ad 22), .ref (ad 23), .ref (ad 24), .ref (ad 25), .ref (ad 26), .ref (ad 27), .ref (ad 28), .int (iv 29), .ref (ad 30), .ref (ad 31), .int (iv 32), .int (iv 33), .int (iv 34), .int (iv 35), .long tl, .int (nI 1), .int (nI (gm_name cs (sA i0) (eA i0))), .int (nI 0), .int (iv 40), .ref (ad 41), .ref (ad 42), .int (iv 43)]))) := w
                    obtain ⟨h1330, u1333⟩ : ∃ z, z = pd_up h1323 y (20, .inr (10, [.ref (ad 0), .ref (ad 1), .ref (ad 2), .int (iv 3), .int (iv 4), .int (iv 5), .ref (ad 6), .ref (ad 7), .ref (ad 8), .ref (ad 9), .ref (ad 10), .ref (ad 11), .int (iv 12), .ref (ad 13), .ref (ad 14), .ref (ad 15), .ref (ad 16), .ref (ad 17), .ref (ad 18), .ref (ad 19), .int (iv 20), .ref (ad 21), .ref (ad 22), .ref (ad 23), .ref (ad 24), .ref (ad 25), .ref (ad 26), .ref (ad 27), .ref (ad 28), .int (iv 29), .ref (ad 30), .ref (ad 31), .int (iv 32), .int (iv 33), .int (iv 34), .int (iv 35), .long tl, .int (nI 1), .int (nI (gm_name cs (sA i0) (eA i0))), .int (nI 0), .int (iv 40), .ref (ad 41), .ref (ad 42), .int (iv 43)])) := ⟨_, rfl⟩
                    rw [← u1333] at w
                    have k1331 : pd_kq y h1323 h1330 := by rw [u1333]; exact pd_up_kq
                    have f1332 : h1330 y = some (20, .inr (10, [.ref (ad 0), .ref (ad 1), .ref (ad 2), .int (iv 3), .int (iv 4), .int (iv 5), .ref (ad 6), .ref (ad 7), .ref (ad 8), .ref (ad 9), .ref (ad 10), .ref (ad 11), .int (iv 12), .ref (ad 13), .ref (ad 14), .ref (ad 15), .ref (ad 16), .ref (ad 17), .ref (ad 18), .ref (ad 19), .int (iv 20), .ref (ad 21), .ref (ad 22), .ref (ad 23), .ref (ad 24), .ref (ad 25), .ref (ad 26), .ref (ad 27), .ref (ad 28), .int (iv 29), .ref (ad 30), .ref (ad 31), .int (iv 32), .int (iv 33), .int (iv 34), .int (iv 35), .long tl, .int (nI 1), .int (nI (gm_name cs (sA i0) (eA i0))), .int (nI 0), .int (iv 40), .ref (ad 41), .ref (ad 42), .int (iv 43)])) := by rw [u1333]; exact pd_up_s _ _ _
                    have f1334 := k1331 _ _ (pd_ne f1327 f1325 (by simp)) f1327
                    have f1335 := k1331 _ _ (pd_ne f1328 f1325 (by simp)) f1328
                    have f1336 := k1331 _ _ (pd_ne f1329 f1325 (by simp)) f1329
                    refine lv_aload_n hx hb d_p15m16_164 rfl (lv_at hl 2 rfl) ?_
                    refine lv_iload_n hx hb d_p15m16_165 rfl (lv_at hl 1 rfl) ?_
                    refine pd_put (ty := .int) X w f1332 hz_y rfl 40 (by decide) mT_1179 rfl rfl (by decide +kernel) rfl rfl (Nat.le_of_ble_eq_true rfl) d_p15m16_166 (fun H locs w => ?_)
                    have w : pd_w G s H locs (pd_up h1330 y (20, .inr (10, [.ref (ad 0), .ref (ad 1), .ref (ad 2), .int (iv 3), .int (iv 4), .int (iv 5), .ref (ad 6), .ref (ad 7), .ref (ad 8), .ref (ad 9), .ref (ad 10), .ref (ad 11), .int (iv 12), .ref (ad 13), .ref (ad 14), .ref (ad 15), .ref (ad 16), .ref (ad 17), .ref (ad 18), .ref (ad 19), .int (iv 20), .ref (ad 21), .ref (ad 22), .ref (ad 23), .ref (ad 24), .ref (ad 25), .ref (ad 26), .ref (ad 27), .ref (ad 28), .int (iv 29), .ref (ad 30), .ref (ad 31), .int (iv 32), .int (iv 33), .int (iv 34), .int (iv 35), .long tl, .int (nI 1), .int (nI (gm_name cs (sA i0) (eA i0))), .int (nI 0), .int (nI (eA i0)), .ref (ad 41), .ref (ad 42), .int (iv 43)]))) := w
                    obtain ⟨h1337, u1340⟩ : ∃ z, z = pd_up h1330 y (20, .inr (10, [.ref (ad 0), .ref (ad 1), .ref (ad 2), .int (iv 3), .int (iv 4), .int (iv 5), .ref (ad 6), .ref (ad 7), .ref (ad 8), .ref (ad 9), .ref (ad 10), .ref (ad 11), .int (iv 12), .ref (ad 13), .ref (ad 14), .ref (ad 15), .ref (ad 16), .ref (ad 17), .ref (ad 18), .ref (ad 19), .int (iv 20), .ref (ad 21), .ref (ad 22), .ref (ad 23), .ref (ad 24), .ref (ad 25), .ref (ad 26), .ref (ad 27), .ref (ad 28), .int (iv 29), .ref (ad 30), .ref (ad 31), .int (iv 32), .int (iv 33), .int (iv 34), .int (iv 35), .long tl, .int (nI 1), .int (nI (gm_name cs (sA i0) (eA i0))), .int (nI 0), .int (nI (eA i0)), .ref (ad 41), .ref (ad 42), .int (iv 43)])) := ⟨_, rfl⟩
                    rw [← u1340] at w
                    have k1338 : pd_kq y h1330 h1337 := by rw [u1340]; exact pd_up_kq
                    have f1339 : h1337 y = some (20, .inr (10, [.ref (ad 0), .ref (ad 1), .ref (ad 2), .int (iv 3), .int (iv 4), .int (iv 5), .ref (ad 6), .ref (ad 7), .ref (ad 8), .ref (ad 9), .ref (ad 10), .ref (ad 11), .int (iv 12), .ref (ad 13), .ref (ad 14), .ref (ad 15), .ref (ad 16), .ref (ad 17), .ref (ad 18), .ref (ad 19), .int (iv 20), .ref (ad 21), .ref (ad 22), .ref (ad 23), .ref (ad 24), .ref (ad 25), .ref (ad 26), .ref (ad 27), .ref (ad 28), .int (iv 29), .ref (ad 30), .ref (ad 31), .int (iv 32), .int (iv 33), .int (iv 34), .int (iv 35), .long tl, .int (nI 1), .int (nI (gm_name cs (sA i0) (eA i0))), .int (nI 0), .int (nI (eA i0)), .ref (ad 41), .ref (ad 42), .int (iv 43)])) := by rw [u1340]; exact pd_up_s _ _ _
                    have f1341 := k1338 _ _ (pd_ne f1334 f1332 (by simp)) f1334
                    have f1342 := k1338 _ _ (pd_ne f1335 f1332 (by simp)) f1335
                    have f1343 := k1338 _ _ (pd_ne f1336 f1332 (by simp)) f1336
                    refine lv_iload_n hx hb d_p15m16_169 rfl (lv_at hl 0 rfl) ?_
                    refine lv_iload_n hx hb d_p15m16_170 rfl (lv_at hl 1 rfl) ?_
                    refine pd_jne (tgt := 176) hx hb d_p15m16_171 (by decide) (by omega) (by omega) (fun q1344 => ?_) (fun q1344 => ?_)
                    · -- taken: 176
                      refine lv_aload_n hx hb d_p15m16_176 rfl (lv_at hl 2 rfl) ?_
                      refine pd_get X w f1339 rfl 0 (by decide) mT_1139 rfl rfl d_p15m16_177 ?_
                      refine lv_iload_n hx hb d_p15m16_180 rfl (lv_at hl 0 rfl) ?_
                      refine pd_iald X w f1341 (by omega) (by omega) d_p15m16_181 ?_
                      refine pd_top (v' := .int (nI (cs.getD ((gm_name cs (sA i0) (eA i0)) + 2) 0))) (congrArg Value.int (hln _ (by omega))) ?_
                      have := tx_lt hlc ((gm_name cs (sA i0) (eA i0)) + 2)
                      refine lv_bipush (v := nI 46) hx hb d_p15m16_182 (by decide) ?_
                      refine pd_jne (tgt := 194) hx hb d_p15m16_184 (by decide) (by omega) (by omega) (fun q1345 => ?_) (fun q1345 => ?_)
                      · -- taken: 194
                        refine lv_iconst (v := nI 0) hx hb d_p15m16_194 (by decide) ?_
                        have hpt : gm_pt cs ((gm_name cs (sA i0) (eA i0)) + 2) (eA i0) = none := by unfold gm_pt; rw [if_neg (by omega), if_pos (by omega)]
                        have hp : gm_pat cs (sA i0) (eA i0) = none := by unfold gm_pat; rw [hph]; simp only [hpt]
                        refine W.eq (g2 := F0 m 195 ls [.int (pd_b false)]) rfl ?_
                        exact pd_zret (v := false) X w ⟨by rw [hp]; rfl, pd_kx.tr (pd_kx.tr (pd_kx.tr (pd_kx.tr (pd_kx.tr (pd_kx.tr (pd_kq.kx (k2) hy0) (pd_kq.kx (k9) f3)) (pd_kq.kx (k1002) f10)) (pd_kq.kx (k1009) f1003)) (pd_kq.kx (k1324) f1010)) (pd_kq.kx (k1331) f1325)) (pd_kq.kx (k1338) f1332), (nI 1), (nI (gm_name cs (sA i0) (eA i0))), (nI 0), (nI (eA i0)), (pd_MO.of (fv2 := fv) (iv2 := pd_fu (pd_fu (pd_fu (pd_fu iv 37 (nI 1)) 38 (nI (gm_name cs (sA i0) (eA i0)))) 39 (nI 0)) 40 (nI (eA i0))) (tl2 := tl) (ts := [20]) hMO (pd_kx.tr (pd_kx.tr (pd_kx.tr (pd_kx.tr (pd_kx.tr (pd_kx.tr (pd_kq.kx (k2) hy0) (pd_kq.kx (k9) f3)) (pd_kq.kx (k1002) f10)) (pd_kq.kx (k1009) f1003)) (pd_kq.kx (k1324) f1010)) (pd_kq.kx (k1331) f1325)) (pd_kq.kx (k1338) f1332)) f1339 (fun j hj => Or.inr ⟨fun z => by first | (simp at z; done) | (simp at z; omega), rfl⟩)), fun t9 ht9 => by rw [hp] at ht9; cases ht9⟩ (by decide) (by decide) d_p15m16_195
                      · -- not taken: 187
                        refine lv_iload_n hx hb d_p15m16_187 rfl (lv_at hl 0 rfl) ?_
                        refine lv_iconst (v := nI 1) hx hb d_p15m16_188 (by decide) ?_
                        refine pd_iadd hx hb d_p15m16_189 ?_
                        refine lv_iload_n hx hb d_p15m16_190 rfl (lv_at hl 1 rfl) ?_
                        refine pd_jne (tgt := 196) hx hb d_p15m16_191 (by decide) (by omega) (by omega) (fun q1346 => ?_) (fun q1346 => ?_)
                        · -- taken: 196
                          refine lv_aload_n hx hb d_p15m16_196 rfl (lv_at hl 2 rfl) ?_
                          refine lv_aload_n hx hb d_p15m16_197 rfl (lv_at hl 2 rfl) ?_
                          refine pd_get X w f1339 rfl 0 (by decide) mT_1139 rfl rfl d_p15m16_198 ?_
                          refine lv_iload_n hx hb d_p15m16_201 rfl (lv_at hl 0 rfl) ?_
                          refine lv_iconst (v := nI 1) hx hb d_p15m16_202 (by decide) ?_
                          refine pd_iadd hx hb d_p15m16_203 ?_
                          refine pd_iald X w f1341 (by omega) (by omega) d_p15m16_204 ?_
                          refine pd_top (v' := .int (nI (cs.getD (((gm_name cs (sA i0) (eA i0)) + 2) + 1) 0))) (congrArg Value.int (hln _ (by omega))) ?_
                          have := tx_lt hlc (((gm_name cs (sA i0) (eA i0)) + 2) + 1)
                          refine lv_bipush (v := nI 42) hx hb d_p15m16_205 (by decide) ?_
                          refine pd_jne (tgt := 221) hx hb d_p15m16_207 (by decide) (by omega) (by omega) (fun q1347 => ?_) (fun q1347 => ?_)
                          · -- taken: 221
                            refine lv_iconst (v := nI 2) hx hb d_p15m16_221 (by decide) ?_
                            refine pd_put (ty := .int) X w f1339 hz_y rfl 39 (by decide) mT_1178 rfl rfl (by decide +kernel) rfl rfl (Nat.le_of_ble_eq_true rfl) d_p15m16_222 (fun H locs w => ?_)
                            have w : pd_w G s H locs (pd_up h1337 y (20, .inr (10, [.ref (ad 0), .ref (ad 1), .ref (ad 2), .int (iv 3), .int (iv 4), .int (iv 5), .ref (ad 6), .ref (ad 7), .ref (ad 8), .ref (ad 9), .ref (ad 10), .ref (ad 11), .int (iv 12), .ref (ad 13), .ref (ad 14), .ref (ad 15), .ref (ad 16), .ref (ad 17), .ref (ad 18), .ref (ad 19), .int (iv 20), .ref (ad 21), .ref (ad 22), .ref (ad 23), .ref (ad 24), .ref (ad 25), .ref (ad 26), .ref (ad 27), .ref (ad 28), .int (iv 29), .ref (ad 30), .ref (ad 31), .int (iv 32), .int (iv 33), .int (iv 34), .int (iv 35), .long tl, .int (nI 1), .int (nI (gm_name cs (sA i0) (eA i0))), .int (nI 2), .int (nI (eA i0)), .ref (ad 41), .ref (ad 42), .int (iv 43)]))) := w
                            obtain ⟨h1348, u1351⟩ : ∃ z, z = pd_up h1337 y (20, .inr (10, [.ref (ad 0), .ref (ad 1), .ref (ad 2), .int (iv 3), .int (iv 4), .int (iv 5), .ref (ad 6), .ref (ad 7), .ref (ad 8), .ref (ad 9), .ref (ad 10), .ref (ad 11), .int (iv 12), .ref (ad 13), .ref (ad 14), .ref (ad 15), .ref (ad 16), .ref (ad 17), .ref (ad 18), .ref (ad 19), .int (iv 20), .ref (ad 21), .ref (ad 22), .ref (ad 23), .ref (ad 24), .ref (ad 25), .ref (ad 26), .ref (ad 27), .ref (ad 28), .int (iv 29), .ref (ad 30), .ref (ad 31), .int (iv 32), .int (iv 33), .int (iv 34), .int (iv 35), .long tl, .int (nI 1), .int (nI (gm_name cs (sA i0) (eA i0))), .int (nI 2), .int (nI (eA i0)), .ref (ad 41), .ref (ad 42), .int (iv 43)])) := ⟨_, rfl⟩
                            rw [← u1351] at w
                            have k1349 : pd_kq y h1337 h1348 := by rw [u1351]; exact pd_up_kq
                            have f1350 : h1348 y = some (20, .inr (10, [.ref (ad 0), .ref (ad 1), .ref (ad 2), .int (iv 3), .int (iv 4), .int (iv 5), .ref (ad 6), .ref (ad 7), .ref (ad 8), .ref (ad 9), .ref (ad 10), .ref (ad 11), .int (iv 12), .ref (ad 13), .ref (ad 14), .ref (ad 15), .ref (ad 16), .ref (ad 17), .ref (ad 18), .ref (ad 19), .int (iv 20), .ref (ad 21), .ref (ad 22), .ref (ad 23), .ref (ad 24), .ref (ad 25), .ref (ad 26), .ref (ad 27), .ref (ad 28), .int (iv 29), .ref (ad 30), .ref (ad 31), .int (iv 32), .int (iv 33), .int (iv 34), .int (iv 35), .long tl, .int (nI 1), .int (nI (gm_name cs (sA i0) (eA i0))), .int (nI 2), .int (nI (eA i0)), .ref (ad 41), .ref (ad 42), .int (iv 43)])) := by rw [u1351]; exact pd_up_s _ _ _
                            have f1352 := k1349 _ _ (pd_ne f1341 f1339 (by simp)) f1341
                            have f1353 := k1349 _ _ (pd_ne f1342 f1339 (by simp)) f1342
                            have f1354 := k1349 _ _ (pd_ne f1343 f1339 (by simp)) f1343
                            refine lv_aload_n hx hb d_p15m16_225 rfl (lv_at hl 2 rfl) ?_
                            refine lv_iload_n hx hb d_p15m16_226 rfl (lv_at hl 0 rfl) ?_
                            refine lv_iconst (v := nI 1) hx hb d_p15m16_227 (by decide) ?_
                            refine pd_iadd hx hb d_p15m16_228 ?_
                            refine pd_put (ty := .int) X w f1350 hz_y rfl 40 (by decide) mT_1179 rfl rfl (by decide +kernel) rfl rfl (Nat.le_of_ble_eq_true rfl) d_p15m16_229 (fun H locs w => ?_)
                            have w : pd_w G s H locs (pd_up h1348 y (20, .inr (10, [.ref (ad 0), .ref (ad 1), .ref (ad 2), .int (iv 3), .int (iv 4), .int (iv 5), .ref (ad 6), .ref (ad 7), .ref (ad 8), .ref (ad 9), .ref (ad 10), .ref (ad 11), .int (iv 12), .ref (ad 13), .ref (ad 14), .ref (ad 15), .ref (ad 16), .ref (ad 17), .ref (ad 18), .ref (ad 19), .int (iv 20), .ref (ad 21), .ref (ad 22), .ref (ad 23), .ref (ad 24), .ref (ad 25), .ref (ad 26), .ref (ad 27), .ref (ad 28), .int (iv 29), .ref (ad 30), .ref (ad 31), .int (iv 32), .int (iv 33), .int (iv 34), .int (iv 35), .long tl, .int (nI 1), .int (nI (gm_name cs (sA i0) (eA i0))), .int (nI 2), .int (nI (((gm_name cs (sA i0) (eA i0)) + 2) + 1)), .ref (ad 41), .ref (ad 42), .int (iv 43)]))) := w
                            obtain ⟨h1355, u1358⟩ : ∃ z, z = pd_up h1348 y (20, .inr (10, [.ref (ad 0), .ref (ad 1), .ref (ad 2), .int (iv 3), .int (iv 4), .int (iv 5), .ref (ad 6), .ref (ad 7), .ref (ad 8), .ref (ad 9), .ref (ad 10), .ref (ad 11), .int (iv 12), .ref (ad 13), .ref (ad 14), .ref (ad 15), .ref (ad 16), .ref (ad 17), .ref (ad 18), .ref (ad 19), .int (iv 20), .ref (ad 21), .ref (ad 22), .ref (ad 23), .ref (ad 24), .ref (ad 25), .ref (ad 26), .ref (ad 27), .ref (ad 28), .int (iv 29), .ref (ad 30), .ref (ad 31), .int (iv 32), .int (iv 33), .int (iv 34), .int (iv 35), .long tl, .int (nI 1), .int (nI (gm_name cs (sA i0) (eA i0))), .int (nI 2), .int (nI (((gm_name cs (sA i0) (eA i0)) + 2) + 1)), .ref (ad 41), .ref (ad 42), .int (iv 43)])) := ⟨_, rfl⟩
                            rw [← u1358] at w
                            have k1356 : pd_kq y h1348 h1355 := by rw [u1358]; exact pd_up_kq
                            have f1357 : h1355 y = some (20, .inr (10, [.ref (ad 0), .ref (ad 1), .ref (ad 2), .int (iv 3), .int (iv 4), .int (iv 5), .ref (ad 6), .ref (ad 7), .ref (ad 8), .ref (ad 9), .ref (ad 10), .ref (ad 11), .int (iv 12), .ref (ad 13), .ref (ad 14), .ref (ad 15), .ref (ad 16), .ref (ad 17), .ref (ad 18), .ref (ad 19), .int (iv 20), .ref (ad 21), .ref (ad 22), .ref (ad 23), .ref (ad 24), .ref (ad 25), .ref (ad 26), .ref (ad 27), .ref (ad 28), .int (iv 29), .ref (ad 30), .ref (ad 31), .int (iv 32), .int (iv 33), .int (iv 34), .int (iv 35), .long tl, .int (nI 1), .int (nI (gm_name cs (sA i0) (eA i0))), .int (nI 2), .int (nI (((gm_name cs (sA i0) (eA i0)) + 2) + 1)), .ref (ad 41), .ref (ad 42), .int (iv 43)])) := by rw [u1358]; exact pd_up_s _ _ _
                            have f1359 := k1356 _ _ (pd_ne f1352 f1350 (by simp)) f1352
                            have f1360 := k1356 _ _ (pd_ne f1353 f1350 (by simp)) f1353
                            have f1361 := k1356 _ _ (pd_ne f1354 f1350 (by simp)) f1354
                            refine lv_aload_n hx hb d_p15m16_232 rfl (lv_at hl 2 rfl) ?_
                            refine pd_get X w f1357 rfl 39 (by decide) mT_1178 rfl rfl d_p15m16_233 ?_
                            refine lv_iconst (v := nI 1) hx hb d_p15m16_236 (by decide) ?_
                            refine pd_jeq (tgt := 252) hx hb d_p15m16_237 (by decide) (by decide) (by decide) (fun q => absurd q (by decide)) (fun _ => ?_)
                            refine lv_aload_n hx hb d_p15m16_240 rfl (lv_at hl 2 rfl) ?_
                            refine lv_iload_n hx hb d_p15m16_241 rfl (lv_at hl 0 rfl) ?_
                            refine lv_iconst (v := nI 1) hx hb d_p15m16_242 (by decide) ?_
                            refine pd_iadd hx hb d_p15m16_243 ?_
                            refine lv_iload_n hx hb d_p15m16_244 rfl (lv_at hl 1 rfl) ?_
                            refine pd_cV (a := y) (As := [.int (nI (((gm_name cs (sA i0) (eA i0)) + 2) + 1)), .int (nI (eA i0))]) (rest := []) X w f1357 rfl (c_PolicyDeskModel_behindPart l G h1355 (ad := ad) (fv := fv) (iv := pd_fu (pd_fu (pd_fu (pd_fu iv 37 (nI 1)) 38 (nI (gm_name cs (sA i0) (eA i0)))) 39 (nI 2)) 40 (nI (((gm_name cs (sA i0) (eA i0)) + 2) + 1))) (tl := tl) (pd_MO.of (fv2 := fv) (iv2 := pd_fu (pd_fu (pd_fu (pd_fu iv 37 (nI 1)) 38 (nI (gm_name cs (sA i0) (eA i0)))) 39 (nI 2)) 40 (nI (((gm_name cs (sA i0) (eA i0)) + 2) + 1))) (tl2 := tl) (ts := [20]) hMO (pd_kx.tr (pd_kx.tr (pd_kx.tr (pd_kx.tr (pd_kx.tr (pd_kx.tr (pd_kx.tr (pd_kx.tr (pd_kq.kx (k2) hy0) (pd_kq.kx (k9) f3)) (pd_kq.kx (k1002) f10)) (pd_kq.kx (k1009) f1003)) (pd_kq.kx (k1324) f1010)) (pd_kq.kx (k1331) f1325)) (pd_kq.kx (k1338) f1332)) (pd_kq.kx (k1349) f1339)) (pd_kq.kx (k1356) f1350)) f1357 (fun j hj => Or.inr ⟨fun z => by first | (simp at z; done) | (simp at z; omega), rfl⟩)) hL (by omega) (by omega)) ok_PolicyDeskModel_behindPart ⟨mT_1315, sT_19⟩ mT_1313 ⟨by decide, by decide⟩ rfl hl.1 rfl (Nat.le_of_ble_eq_true rfl) d_p15m16_245 ⟨by decide, by decide⟩ (fun r1363 h1364 H locs hp1365 w => ?_)
                            refine W.widen (k := 0) (n := 0) (by decide) (by decide) ?_
                            obtain ⟨e1366, rfl⟩ := hp1365
                            have hpl := gm_part_le (cs := cs) (x := (gm_name cs (sA i0) (eA i0)) + 2 + 1) (to := eA i0) (by omega)
                            refine lv_iload_n hx hb d_p15m16_248 rfl (lv_at hl 1 rfl) ?_
                            refine pd_jne (tgt := 256) hx hb d_p15m16_249 (by decide) (by omega) (by omega) (fun q1367 => ?_) (fun q1367 => ?_)
                            · -- taken: 256
                              refine lv_iconst (v := nI 0) hx hb d_p15m16_256 (by decide) ?_
                              have hpt : gm_pt cs ((gm_name cs (sA i0) (eA i0)) + 2) (eA i0) = none := by unfold gm_pt; rw [if_neg (by omega), if_neg (by omega), if_neg (by omega), if_neg (by rw [← e1366]; omega)]
                              have hp : gm_pat cs (sA i0) (eA i0) = none := by unfold gm_pat; rw [hph]; simp only [hpt]
                              refine W.eq (g2 := F0 m 257 ls [.int (pd_b false)]) rfl ?_
                              exact pd_zret (v := false) X w ⟨by rw [hp]; rfl, pd_kx.tr (pd_kx.tr (pd_kx.tr (pd_kx.tr (pd_kx.tr (pd_kx.tr (pd_kx.tr (pd_kx.tr (pd_kq.kx (k2) hy0) (pd_kq.kx (k9) f3)) (pd_kq.kx (k1002) f10)) (pd_kq.kx (k1009) f1003)) (pd_kq.kx (k1324) f1010)) (pd_kq.kx (k1331) f1325)) (pd_kq.kx (k1338) f1332)) (pd_kq.kx (k1349) f1339)) (pd_kq.kx (k1356) f1350), (nI 1), (nI (gm_name cs (sA i0) (eA i0))), (nI 2), (nI (((gm_name cs (sA i0) (eA i0)) + 2) + 1)), (pd_MO.of (fv2 := fv) (iv2 := pd_fu (pd_fu (pd_fu (pd_fu iv 37 (nI 1)) 38 (nI (gm_name cs (sA i0) (eA i0)))) 39 (nI 2)) 40 (nI (((gm_name cs (sA i0) (eA i0)) + 2) + 1))) (tl2 := tl) (ts := [20]) hMO (pd_kx.tr (pd_kx.tr (pd_kx.tr (pd_kx.tr (pd_kx.tr (pd_kx.tr (pd_kx.tr (pd_kx.tr (pd_kq.kx (k2) hy0) (pd_kq.kx (k9) f3)) (pd_kq.kx (k1002) f10)) (pd_kq.kx (k1009) f1003)) (pd_kq.kx (k1324) f1010)) (pd_kq.kx (k1331) f1325)) (pd_kq.kx (k1338) f1332)) (pd_kq.kx (k1349) f1339)) (pd_kq.kx (k1356) f1350)) f1357 (fun j hj => Or.inr ⟨fun z => by first | (simp at z; done) | (simp at z; omega), rfl⟩)), fun t9 ht9 => by rw [hp] at ht9; cases ht9⟩ (by decide) (by decide) d_p15m16_257
                            · -- not taken: 252
                              refine lv_iconst (v := nI 1) hx hb d_p15m16_252 (by decide) ?_
                              refine lv_goto (tgt := 257) hx hb d_p15m16_253 (by decide) ?_
                              have hpt : gm_pt cs ((gm_name cs (sA i0) (eA i0)) + 2) (eA i0) = some (2, (gm_name cs (sA i0) (eA i0)) + 2 + 1) := by unfold gm_pt; rw [if_neg (by omega), if_neg (by omega), if_neg (by omega), if_pos (by rw [← e1366]; omega)]
                              have hp : gm_pat cs (sA i0) (eA i0) = some (1, gm_name cs (sA i0) (eA i0), 2, (gm_name cs (sA i0) (eA i0)) + 2 + 1) := by unfold gm_pat; rw [hph]; simp only [hpt]
                              refine W.eq (g2 := F0 m 257 ls [.int (pd_b true)]) rfl ?_
                              exact pd_zret (v := true) X w ⟨by rw [hp]; rfl, pd_kx.tr (pd_kx.tr (pd_kx.tr (pd_kx.tr (pd_kx.tr (pd_kx.tr (pd_kx.tr (pd_kx.tr (pd_kq.kx (k2) hy0) (pd_kq.kx (k9) f3)) (pd_kq.kx (k1002) f10)) (pd_kq.kx (k1009) f1003)) (pd_kq.kx (k1324) f1010)) (pd_kq.kx (k1331) f1325)) (pd_kq.kx (k1338) f1332)) (pd_kq.kx (k1349) f1339)) (pd_kq.kx (k1356) f1350), (nI 1), (nI (gm_name cs (sA i0) (eA i0))), (nI 2), (nI (((gm_name cs (sA i0) (eA i0)) + 2) + 1)), (pd_MO.of (fv2 := fv) (iv2 := pd_fu (pd_fu (pd_fu (pd_fu iv 37 (nI 1)) 38 (nI (gm_name cs (sA i0) (eA i0)))) 39 (nI 2)) 40 (nI (((gm_name cs (sA i0) (eA i0)) + 2) + 1))) (tl2 := tl) (ts := [20]) hMO (pd_kx.tr (pd_kx.tr (pd_kx.tr (pd_kx.tr (pd_kx.tr (pd_kx.tr (pd_kx.tr (pd_kx.tr (pd_kq.kx (k2) hy0) (pd_kq.kx (k9) f3)) (pd_kq.kx (k1002) f10)) (pd_kq.kx (k1009) f1003)) (pd_kq.kx (k1324) f1010)) (pd_kq.kx (k1331) f1325)) (pd_kq.kx (k1338) f1332)) (pd_kq.kx (k1349) f1339)) (pd_kq.kx (k1356) f1350)) f1357 (fun j hj => Or.inr ⟨fun z => by first | (simp at z; done) | (simp at z; omega), rfl⟩)), fun t9 ht9 => by rw [hp] at ht9; cases ht9; exact ⟨rfl, rfl, rfl, rfl⟩⟩ (by decide) (by decide) d_p15m16_257
                          · -- not taken: 210
                            refine lv_iload_n hx hb d_p15m16_210 rfl (lv_at hl 0 rfl) ?_
                            refine lv_iconst (v := nI 2) hx hb d_p15m16_211 (by decide) ?_
                            refine pd_iadd hx hb d_p15m16_212 ?_
                            refine lv_iload_n hx hb d_p15m16_213 rfl (lv_at hl 1 rfl) ?_
                            refine pd_jne (tgt := 221) hx hb d_p15m16_214 (by decide) (by omega) (by omega) (fun q1368 => ?_) (fun q1368 => ?_)
                            · -- taken: 221
                              refine lv_iconst (v := nI 2) hx hb d_p15m16_221 (by decide) ?_
                              refine pd_put (ty := .int) X w f1339 hz_y rfl 39 (by decide) mT_1178 rfl rfl (by decide +kernel) rfl rfl (Nat.le_of_ble_eq_true rfl) d_p15m16_222 (fun H locs w => ?_)
                              have w : pd_w G s H locs (pd_up h1337 y (20, .inr (10, [.ref (ad 0), .ref (ad 1), .ref (ad 2), .int (iv 3), .int (iv 4), .int (iv 5), .ref (ad 6), .ref (ad 7), .ref (ad 8), .ref (ad 9), .ref (ad 10), .ref (ad 11), .int (iv 12), .ref (ad 13), .ref (ad 14), .ref (ad 15), .ref (ad 16), .ref (ad 17), .ref (ad 18), .ref (ad 19), .int (iv 20), .ref (ad 21), .ref (ad 22), .ref (ad 23), .ref (ad 24), .ref (ad 25), .ref (ad 26), .ref (ad 27), .ref (ad 28), .int (iv 29), .ref (ad 30), .ref (ad 31), .int (iv 32), .int (iv 33), .int (iv 34), .int (iv 35), .long tl, .int (nI 1), .int (nI (gm_name cs (sA i0) (eA i0))), .int (nI 2), .int (nI (eA i0)), .ref (ad 41), .ref (ad 42), .int (iv 43)]))) := w
                              obtain ⟨h1369, u1372⟩ : ∃ z, z = pd_up h1337 y (20, .inr (10, [.ref (ad 0), .ref (ad 1), .ref (ad 2), .int (iv 3), .int (iv 4), .int (iv 5), .ref (ad 6), .ref (ad 7), .ref (ad 8), .ref (ad 9), .ref (ad 10), .ref (ad 11), .int (iv 12), .ref (ad 13), .ref (ad 14), .ref (ad 15), .ref (ad 16), .ref (ad 17), .ref (ad 18), .ref (ad 19), .int (iv 20), .ref (ad 21), .ref (ad 22), .ref (ad 23), .ref (ad 24), .ref (ad 25), .ref (ad 26), .ref (ad 27), .ref (ad 28), .int (iv 29), .ref (ad 30), .ref (ad 31), .int (iv 32), .int (iv 33), .int (iv 34), .int (iv 35), .long tl, .int (nI 1), .int (nI (gm_name cs (sA i0) (eA i0))), .int (nI 2), .int (nI (eA i0)), .ref (ad 41), .ref (ad 42), .int (iv 43)])) := ⟨_, rfl⟩
                              rw [← u1372] at w
                              have k1370 : pd_kq y h1337 h1369 := by rw [u1372]; exact pd_up_kq
                              have f1371 : h1369 y = some (20, .inr (10, [.ref (ad 0), .ref (ad 1), .ref (ad 2), .int (iv 3), .int (iv 4), .int (iv 5), .ref (ad 6), .ref (ad 7), .ref (ad 8), .ref (ad 9), .ref (ad 10), .ref (ad 11), .int (iv 12), .ref (ad 13), .ref (ad 14), .ref (ad 15), .ref (ad 16), .ref (ad 17), .ref (ad 18), .ref (ad 19), .int (iv 20), .ref (ad 21), .ref (ad 22), .ref (ad 23), .ref (ad 24), .ref (ad 25), .ref (ad 26), .ref (ad 27), .ref (ad 28), .int (iv 29), .ref (ad 30), .ref (ad 31), .int (iv 32), .int (iv 33), .int (iv 34), .int (iv 35), .long tl, .int (nI 1), .int (nI (gm_name cs (sA i0) (eA i0))), .int (nI 2), .int (nI (eA i0)), .ref (ad 41), .ref (ad 42), .int (iv 43)])) := by rw [u1372]; exact pd_up_s _ _ _
                              have f1373 := k1370 _ _ (pd_ne f1341 f1339 (by simp)) f1341
                              have f1374 := k1370 _ _ (pd_ne f1342 f1339 (by simp)) f1342
                              have f1375 := k1370 _ _ (pd_ne f1343 f1339 (by simp)) f1343
                              refine lv_aload_n hx hb d_p15m16_225 rfl (lv_at hl 2 rfl) ?_
                              refine lv_iload_n hx hb d_p15m16_226 rfl (lv_at hl 0 rfl) ?_
                              refine lv_iconst (v := nI 1) hx hb d_p15m16_227 (by decide) ?_
                              refine pd_iadd hx hb d_p15m16_228 ?_
                              refine pd_put (ty := .int) X w f1371 hz_y rfl 40 (by decide) mT_1179 rfl rfl (by decide +kernel) rfl rfl (Nat.le_of_ble_eq_true rfl) d_p15m16_229 (fun H locs w => ?_)
                              have w : pd_w G s H locs (pd_up h1369 y (20, .inr (10, [.ref (ad 0), .ref (ad 1), .ref (ad 2), .int (iv 3), .int (iv 4), .int (iv 5), .ref (ad 6), .ref (ad 7), .ref (ad 8), .ref (ad 9), .ref (ad 10), .ref (ad 11), .int (iv 12), .ref (ad 13), .ref (ad 14), .ref (ad 15), .ref (ad 16), .ref (ad 17), .ref (ad 18), .ref (ad 19), .int (iv 20), .ref (ad 21), .ref (ad 22), .ref (ad 23), .ref (ad 24), .ref (ad 25), .ref (ad 26), .ref (ad 27), .ref (ad 28), .int (iv 29), .ref (ad 30), .ref (ad 31), .int (iv 32), .int (iv 33), .int (iv 34), .int (iv 35), .long tl, .int (nI 1), .int (nI (gm_name cs (sA i0) (eA i0))), .int (nI 2), .int (nI (((gm_name cs (sA i0) (eA i0)) + 2) + 1)), .ref (ad 41), .ref (ad 42), .int (iv 43)]))) := w
                              obtain ⟨h1376, u1379⟩ : ∃ z, z = pd_up h1369 y (20, .inr (10, [.ref (ad 0), .ref (ad 1), .ref (ad 2), .int (iv 3), .int (iv 4), .int (iv 5), .ref (ad 6), .ref (ad 7), .ref (ad 8), .ref (ad 9), .ref (ad 10), .ref (ad 11), .int (iv 12), .ref (ad 13), .ref (ad 14), .ref (ad 15), .ref (ad 16), .ref (ad 17), .ref (ad 18), .ref (ad 19), .int (iv 20), .ref (ad 21), .ref (ad 22), .ref (ad 23), .ref (ad 24), .ref (ad 25), .ref (ad 26), .ref (ad 27), .ref (ad 28), .int (iv 29), .ref (ad 30), .ref (ad 31), .int (iv 32), .int (iv 33), .int (iv 34), .int (iv 35), .long tl, .int (nI 1), .int (nI (gm_name cs (sA i0) (eA i0))), .int (nI 2), .int (nI (((gm_name cs (sA i0) (eA i0)) + 2) + 1)), .ref (ad 41), .ref (ad 42), .int (iv 43)])) := ⟨_, rfl⟩
                              rw [← u1379] at w
                              have k1377 : pd_kq y h1369 h1376 := by rw [u1379]; exact pd_up_kq
                              have f1378 : h1376 y = some (20, .inr (10, [.ref (ad 0), .ref (ad 1), .ref (ad 2), .int (iv 3), .int (iv 4), .int (iv 5), .ref (ad 6), .ref (ad 7), .ref (ad 8), .ref (ad 9), .ref (ad 10), .ref (ad 11), .int (iv 12), .ref (ad 13), .ref (ad 14), .ref (ad 15), .ref (ad 16), .ref (ad 17), .ref (ad 18), .ref (ad 19), .int (iv 20), .ref (ad 21), .ref (ad 22), .ref (ad 23), .ref (ad 24), .ref (ad 25), .ref (ad 26), .ref (ad 27), .ref (ad 28), .int (iv 29), .ref (ad 30), .ref (ad 31), .int (iv 32), .int (iv 33), .int (iv 34), .int (iv 35), .long tl, .int (nI 1), .int (nI (gm_name cs (sA i0) (eA i0))), .int (nI 2), .int (nI (((gm_name cs (sA i0) (eA i0)) + 2) + 1)), .ref (ad 41), .ref (ad 42), .int (iv 43)])) := by rw [u1379]; exact pd_up_s _ _ _
                              have f1380 := k1377 _ _ (pd_ne f1373 f1371 (by simp)) f1373
                              have f1381 := k1377 _ _ (pd_ne f1374 f1371 (by simp)) f1374
                              have f1382 := k1377 _ _ (pd_ne f1375 f1371 (by simp)) f1375
                              refine lv_aload_n hx hb d_p15m16_232 rfl (lv_at hl 2 rfl) ?_
                              refine pd_get X w f1378 rfl 39 (by decide) mT_1178 rfl rfl d_p15m16_233 ?_
                              refine lv_iconst (v := nI 1) hx hb d_p15m16_236 (by decide) ?_
                              refine pd_jeq (tgt := 252) hx hb d_p15m16_237 (by decide) (by decide) (by decide) (fun q => absurd q (by decide)) (fun _ => ?_)
                              refine lv_aload_n hx hb d_p15m16_240 rfl (lv_at hl 2 rfl) ?_
                              refine lv_iload_n hx hb d_p15m16_241 rfl (lv_at hl 0 rfl) ?_
                              refine lv_iconst (v := nI 1) hx hb d_p15m16_242 (by decide) ?_
                              refine pd_iadd hx hb d_p15m16_243 ?_
                              refine lv_iload_n hx hb d_p15m16_244 rfl (lv_at hl 1 rfl) ?_
                              refine pd_cV (a := y) (As := [.int (nI (((gm_name cs (sA i0) (eA i0)) + 2) + 1)), .int (nI (eA i0))]) (rest := []) X w f1378 rfl (c_PolicyDeskModel_behindPart l G h1376 (ad := ad) (fv := fv) (iv := pd_fu (pd_fu (pd_fu (pd_fu iv 37 (nI 1)) 38 (nI (gm_name cs (sA i0) (eA i0)))) 39 (nI 2)) 40 (nI (((gm_name cs (sA i0) (eA i0)) + 2) + 1))) (tl := tl) (pd_MO.of (fv2 := fv) (iv2 := pd_fu (pd_fu (pd_fu (pd_fu iv 37 (nI 1)) 38 (nI (gm_name cs (sA i0) (eA i0)))) 39 (nI 2)) 40 (nI (((gm_name cs (sA i0) (eA i0)) + 2) + 1))) (tl2 := tl) (ts := [20]) hMO (pd_kx.tr (pd_kx.tr (pd_kx.tr (pd_kx.tr (pd_kx.tr (pd_kx.tr (pd_kx.tr (pd_kx.tr (pd_kq.kx (k2) hy0) (pd_kq.kx (k9) f3)) (pd_kq.kx (k1002) f10)) (pd_kq.kx (k1009) f1003)) (pd_kq.kx (k1324) f1010)) (pd_kq.kx (k1331) f1325)) (pd_kq.kx (k1338) f1332)) (pd_kq.kx (k1370) f1339)) (pd_kq.kx (k1377) f1371)) f1378 (fun j hj => Or.inr ⟨fun z => by first | (simp at z; done) | (simp at z; omega), rfl⟩)) hL (by omega) (by omega)) ok_PolicyDeskModel_behindPart ⟨mT_1315, sT_19⟩ mT_1313 ⟨by decide, by decide⟩ rfl hl.1 rfl (Nat.le_of_ble_eq_true rfl) d_p15m16_245 ⟨by decide, by decide⟩ (fun r1384 h1385 H locs hp1386 w => ?_)
                              refine W.widen (k := 0) (n := 0) (by decide) (by decide) ?_
                              obtain ⟨e1387, rfl⟩ := hp1386
                              have hpl := gm_part_le (cs := cs) (x := (gm_name cs (sA i0) (eA i0)) + 2 + 1) (to := eA i0) (by omega)
                              refine lv_iload_n hx hb d_p15m16_248 rfl (lv_at hl 1 rfl) ?_
                              refine pd_jne (tgt := 256) hx hb d_p15m16_249 (by decide) (by omega) (by omega) (fun q1388 => ?_) (fun q1388 => ?_)
                              · -- taken: 256
                                refine lv_iconst (v := nI 0) hx hb d_p15m16_256 (by decide) ?_
                                have hpt : gm_pt cs ((gm_name cs (sA i0) (eA i0)) + 2) (eA i0) = none := by unfold gm_pt; rw [if_neg (by omega), if_neg (by omega), if_neg (by omega), if_neg (by rw [← e1387]; omega)]
                                have hp : gm_pat cs (sA i0) (eA i0) = none := by unfold gm_pat; rw [hph]; simp only [hpt]
                                refine W.eq (g2 := F0 m 257 ls [.int (pd_b false)]) rfl ?_
                                exact pd_zret (v := false) X w ⟨by rw [hp]; rfl, pd_kx.tr (pd_kx.tr (pd_kx.tr (pd_kx.tr (pd_kx.tr (pd_kx.tr (pd_kx.tr (pd_kx.tr (pd_kq.kx (k2) hy0) (pd_kq.kx (k9) f3)) (pd_kq.kx (k1002) f10)) (pd_kq.kx (k1009) f1003)) (pd_kq.kx (k1324) f1010)) (pd_kq.kx (k1331) f1325)) (pd_kq.kx (k1338) f1332)) (pd_kq.kx (k1370) f1339)) (pd_kq.kx (k1377) f1371), (nI 1), (nI (gm_name cs (sA i0) (eA i0))), (nI 2), (nI (((gm_name cs (sA i0) (eA i0)) + 2) + 1)), (pd_MO.of (fv2 := fv) (iv2 := pd_fu (pd_fu (pd_fu (pd_fu iv 37 (nI 1)) 38 (nI (gm_name cs (sA i0) (eA i0)))) 39 (nI 2)) 40 (nI (((gm_name cs (sA i0) (eA i0)) + 2) + 1))) (tl2 := tl) (ts := [20]) hMO (pd_kx.tr (pd_kx.tr (pd_kx.tr (pd_kx.tr (pd_kx.tr (pd_kx.tr (pd_kx.tr (pd_kx.tr (pd_kq.kx (k2) hy0) (pd_kq.kx (k9) f3)) (pd_kq.kx (k1002) f10)) (pd_kq.kx (k1009) f1003)) (pd_kq.kx (k1324) f1010)) (pd_kq.kx (k1331) f1325)) (pd_kq.kx (k1338) f1332)) (pd_kq.kx (k1370) f1339)) (pd_kq.kx (k1377) f1371)) f1378 (fun j hj => Or.inr ⟨fun z => by first | (simp at z; done) | (simp at z; omega), rfl⟩)), fun t9 ht9 => by rw [hp] at ht9; cases ht9⟩ (by decide) (by decide) d_p15m16_257
                              · -- not taken: 252
                                refine lv_iconst (v := nI 1) hx hb d_p15m16_252 (by decide) ?_
                                refine lv_goto (tgt := 257) hx hb d_p15m16_253 (by decide) ?_
                                have hpt : gm_pt cs ((gm_name cs (sA i0) (eA i0)) + 2) (eA i0) = some (2, (gm_name cs (sA i0) (eA i0)) + 2 + 1) := by unfold gm_pt; rw [if_neg (by omega), if_neg (by omega), if_neg (by omega), if_pos (by rw [← e1387]; omega)]
                                have hp : gm_pat cs (sA i0) (eA i0) = some (1, gm_name cs (sA i0) (eA i0), 2, (gm_name cs (sA i0) (eA i0)) + 2 + 1) := by unfold gm_pat; rw [hph]; simp only [hpt]
                                refine W.eq (g2 := F0 m 257 ls [.int (pd_b true)]) rfl ?_
                                exact pd_zret (v := true) X w ⟨by rw [hp]; rfl, pd_kx.tr (pd_kx.tr (pd_kx.tr (pd_kx.tr (pd_kx.tr (pd_kx.tr (pd_kx.tr (pd_kx.tr (pd_kq.kx (k2) hy0) (pd_kq.kx (k9) f3)) (pd_kq.kx (k1002) f10)) (pd_kq.kx (k1009) f1003)) (pd_kq.kx (k1324) f1010)) (pd_kq.kx (k1331) f1325)) (pd_kq.kx (k1338) f1332)) (pd_kq.kx (k1370) f1339)) (pd_kq.kx (k1377) f1371), (nI 1), (nI (gm_name cs (sA i0) (eA i0))), (nI 2), (nI (((gm_name cs (sA i0) (eA i0)) + 2) + 1)), (pd_MO.of (fv2 := fv) (iv2 := pd_fu (pd_fu (pd_fu (pd_fu iv 37 (nI 1)) 38 (nI (gm_name cs (sA i0) (eA i0)))) 39 (nI 2)) 40 (nI (((gm_name cs (sA i0) (eA i0)) + 2) + 1))) (tl2 := tl) (ts := [20]) hMO (pd_kx.tr (pd_kx.tr (pd_kx.tr (pd_kx.tr (pd_kx.tr (pd_kx.tr (pd_kx.tr (pd_kx.tr (pd_kq.kx (k2) hy0) (pd_kq.kx (k9) f3)) (pd_kq.kx (k1002) f10)) (pd_kq.kx (k1009) f1003)) (pd_kq.kx (k1324) f1010)) (pd_kq.kx (k1331) f1325)) (pd_kq.kx (k1338) f1332)) (pd_kq.kx (k1370) f1339)) (pd_kq.kx (k1377) f1371)) f1378 (fun j hj => Or.inr ⟨fun z => by first | (simp at z; done) | (simp at z; omega), rfl⟩)), fun t9 ht9 => by rw [hp] at ht9; cases ht9; exact ⟨rfl, rfl, rfl, rfl⟩⟩ (by decide) (by decide) d_p15m16_257
                            · -- not taken: 217
                              refine lv_iconst (v := nI 1) hx hb d_p15m16_217 (by decide) ?_
                              refine lv_goto (tgt := 222) hx hb d_p15m16_218 (by decide) ?_
                              refine pd_put (ty := .int) X w f1339 hz_y rfl 39 (by decide) mT_1178 rfl rfl (by decide +kernel) rfl rfl (Nat.le_of_ble_eq_true rfl) d_p15m16_222 (fun H locs w => ?_)
                              have w : pd_w G s H locs (pd_up h1337 y (20, .inr (10, [.ref (ad 0), .ref (ad 1), .ref (ad 2), .int (iv 3), .int (iv 4), .int (iv 5), .ref (ad 6), .ref (ad 7), .ref (ad 8), .ref (ad 9), .ref (ad 10), .ref (ad 11), .int (iv 12), .ref (ad 13), .ref (ad 14), .ref (ad 15), .ref (ad 16), .ref (ad 17), .ref (ad 18), .ref (ad 19), .int (iv 20), .ref (ad 21), .ref (ad 22), .ref (ad 23), .ref (ad 24), .ref (ad 25), .ref (ad 26), .ref (ad 27), .ref (ad 28), .int (iv 29), .ref (ad 30), .ref (ad 31), .int (iv 32), .int (iv 33), .int (iv 34), .int (iv 35), .long tl, .int (nI 1), .int (nI (gm_name cs (sA i0) (eA i0))), .int (nI 1), .int (nI (eA i0)), .ref (ad 41), .ref (ad 42), .int (iv 43)]))) := w
                              obtain ⟨h1389, u1392⟩ : ∃ z, z = pd_up h1337 y (20, .inr (10, [.ref (ad 0), .ref (ad 1), .ref (ad 2), .int (iv 3), .int (iv 4), .int (iv 5), .ref (ad 6), .ref (ad 7), .ref (ad 8), .ref (ad 9), .ref (ad 10), .ref (ad 11), .int (iv 12), .ref (ad 13), .ref (ad 14), .ref (ad 15), .ref (ad 16), .ref (ad 17), .ref (ad 18), .ref (ad 19), .int (iv 20), .ref (ad 21), .ref (ad 22), .ref (ad 23), .ref (ad 24), .ref (ad 25), .ref (ad 26), .ref (ad 27), .ref (ad 28), .int (iv 29), .ref (ad 30), .ref (ad 31), .int (iv 32), .int (iv 33), .int (iv 34), .int (iv 35), .long tl, .int (nI 1), .int (nI (gm_name cs (sA i0) (eA i0))), .int (nI 1), .int (nI (eA i0)), .ref (ad 41), .ref (ad 42), .int (iv 43)])) := ⟨_, rfl⟩
                              rw [← u1392] at w
                              have k1390 : pd_kq y h1337 h1389 := by rw [u1392]; exact pd_up_kq
                              have f1391 : h1389 y = some (20, .inr (10, [.ref (ad 0), .ref (ad 1), .ref (ad 2), .int (iv 3), .int (iv 4), .int (iv 5), .ref (ad 6), .ref (ad 7), .ref (ad 8), .ref (ad 9), .ref (ad 10), .ref (ad 11), .int (iv 12), .ref (ad 13), .ref (ad 14), .ref (ad 15), .ref (ad 16), .ref (ad 17), .ref (ad 18), .ref (ad 19), .int (iv 20), .ref (ad 21), .ref (ad 22), .ref (ad 23), .ref (ad 24), .ref (ad 25), .ref (ad 26), .ref (ad 27), .ref (ad 28), .int (iv 29), .ref (ad 30), .ref (ad 31), .int (iv 32), .int (iv 33), .int (iv 34), .int (iv 35), .long tl, .int (nI 1), .int (nI (gm_name cs (sA i0) (eA i0))), .int (nI 1), .int (nI (eA i0)), .ref (ad 41), .ref (ad 42), .int (iv 43)])) := by rw [u1392]; exact pd_up_s _ _ _
                              have f1393 := k1390 _ _ (pd_ne f1341 f1339 (by simp)) f1341
                              have f1394 := k1390 _ _ (pd_ne f1342 f1339 (by simp)) f1342
                              have f1395 := k1390 _ _ (pd_ne f1343 f1339 (by simp)) f1343
                              refine lv_aload_n hx hb d_p15m16_225 rfl (lv_at hl 2 rfl) ?_
                              refine lv_iload_n hx hb d_p15m16_226 rfl (lv_at hl 0 rfl) ?_
                              refine lv_iconst (v := nI 1) hx hb d_p15m16_227 (by decide) ?_
                              refine pd_iadd hx hb d_p15m16_228 ?_
                              refine pd_put (ty := .int) X w f1391 hz_y rfl 40 (by decide) mT_1179 rfl rfl (by decide +kernel) rfl rfl (Nat.le_of_ble_eq_true rfl) d_p15m16_229 (fun H locs w => ?_)
                              have w : pd_w G s H locs (pd_up h1389 y (20, .inr (10, [.ref (ad 0), .ref (ad 1), .ref (ad 2), .int (iv 3), .int (iv 4), .int (iv 5), .ref (ad 6), .ref (ad 7), .ref (ad 8), .ref (ad 9), .ref (ad 10), .ref (ad 11), .int (iv 12), .ref (ad 13), .ref (ad 14), .ref (ad 15), .ref (ad 16), .ref (ad 17), .ref (ad 18), .ref (ad 19), .int (iv 20), .ref (ad 21), .ref (ad 22), .ref (ad 23), .ref (ad 24), .ref (ad 25), .ref (ad 26), .ref (ad 27), .ref (ad 28), .int (iv 29), .ref (ad 30), .ref (ad 31), .int (iv 32), .int (iv 33), .int (iv 34), .int (iv 35), .long tl, .int (nI 1), .int (nI (gm_name cs (sA i0) (eA i0))), .int (nI 1), .int (nI (((gm_name cs (sA i0) (eA i0)) + 2) + 1)), .ref (ad 41), .ref (ad 42), .int (iv 43)]))) := w
                              obtain ⟨h1396, u1399⟩ : ∃ z, z = pd_up h1389 y (20, .inr (10, [.ref (ad 0), .ref (ad 1), .ref (ad 2), .int (iv 3), .int (iv 4), .int (iv 5), .ref (ad 6), .ref (ad 7), .ref (ad 8), .ref (ad 9), .ref (ad 10), .ref (ad 11), .int (iv 12), .ref (ad 13), .ref (ad 14), .ref (ad 15), .ref (ad 16), .ref (ad 17), .ref (ad 18), .ref (ad 19), .int (iv 20), .ref (ad 21), .ref (ad 22), .ref (ad 23), .ref (ad 24), .ref (ad 25), .ref (ad 26), .ref (ad 27), .ref (ad 28), .int (iv 29), .ref (ad 30), .ref (ad 31), .int (iv 32), .int (iv 33), .int (iv 34), .int (iv 35), .long tl, .int (nI 1), .int (nI (gm_name cs (sA i0) (eA i0))), .int (nI 1), .int (nI (((gm_name cs (sA i0) (eA i0)) + 2) + 1)), .ref (ad 41), .ref (ad 42), .int (iv 43)])) := ⟨_, rfl⟩
                              rw [← u1399] at w
                              have k1397 : pd_kq y h1389 h1396 := by rw [u1399]; exact pd_up_kq
                              have f1398 : h1396 y = some (20, .inr (10, [.ref (ad 0), .ref (ad 1), .ref (ad 2), .int (iv 3), .int (iv 4), .int (iv 5), .ref (ad 6), .ref (ad 7), .ref (ad 8), .ref (ad 9), .ref (ad 10), .ref (ad 11), .int (iv 12), .ref (ad 13), .ref (ad 14), .ref (ad 15), .ref (ad 16), .ref (ad 17), .ref (ad 18), .ref (ad 19), .int (iv 20), .ref (ad 21), .ref (ad 22), .ref (ad 23), .ref (ad 24), .ref (ad 25), .ref (ad 26), .ref (ad 27), .ref (ad 28), .int (iv 29), .ref (ad 30), .ref (ad 31), .int (iv 32), .int (iv 33), .int (iv 34), .int (iv 35), .long tl, .int (nI 1), .int (nI (gm_name cs (sA i0) (eA i0))), .int (nI 1), .int (nI (((gm_name cs (sA i0) (eA i0)) + 2) + 1)), .ref (ad 41), .ref (ad 42), .int (iv 43)])) := by rw [u1399]; exact pd_up_s _ _ _
                              have f1400 := k1397 _ _ (pd_ne f1393 f1391 (by simp)) f1393
                              have f1401 := k1397 _ _ (pd_ne f1394 f1391 (by simp)) f1394
                              have f1402 := k1397 _ _ (pd_ne f1395 f1391 (by simp)) f1395
                              refine lv_aload_n hx hb d_p15m16_232 rfl (lv_at hl 2 rfl) ?_
                              refine pd_get X w f1398 rfl 39 (by decide) mT_1178 rfl rfl d_p15m16_233 ?_
                              refine lv_iconst (v := nI 1) hx hb d_p15m16_236 (by decide) ?_
                              refine pd_jeq (tgt := 252) hx hb d_p15m16_237 (by decide) (by decide) (by decide) (fun _ => ?_) (fun q => absurd q (by decide))
                              refine lv_iconst (v := nI 1) hx hb d_p15m16_252 (by decide) ?_
                              refine lv_goto (tgt := 257) hx hb d_p15m16_253 (by decide) ?_
                              have hpt : gm_pt cs ((gm_name cs (sA i0) (eA i0)) + 2) (eA i0) = some (1, (gm_name cs (sA i0) (eA i0)) + 2 + 1) := by unfold gm_pt; rw [if_neg (by omega), if_neg (by omega), if_pos (by omega)]
                              have hp : gm_pat cs (sA i0) (eA i0) = some (1, gm_name cs (sA i0) (eA i0), 1, (gm_name cs (sA i0) (eA i0)) + 2 + 1) := by unfold gm_pat; rw [hph]; simp only [hpt]
                              refine W.eq (g2 := F0 m 257 ls [.int (pd_b true)]) rfl ?_
                              exact pd_zret (v := true) X w ⟨by rw [hp]; rfl, pd_kx.tr (pd_kx.tr (pd_kx.tr (pd_kx.tr (pd_kx.tr (pd_kx.tr (pd_kx.tr (pd_kx.tr (pd_kq.kx (k2) hy0) (pd_kq.kx (k9) f3)) (pd_kq.kx (k1002) f10)) (pd_kq.kx (k1009) f1003)) (pd_kq.kx (k1324) f1010)) (pd_kq.kx (k1331) f1325)) (pd_kq.kx (k1338) f1332)) (pd_kq.kx (k1390) f1339)) (pd_kq.kx (k1397) f1391), (nI 1), (nI (gm_name cs (sA i0) (eA i0))), (nI 1), (nI (((gm_name cs (sA i0) (eA i0)) + 2) + 1)), (pd_MO.of (fv2 := fv) (iv2 := pd_fu (pd_fu (pd_fu (pd_fu iv 37 (nI 1)) 38 (nI (gm_name cs (sA i0) (eA i0)))) 39 (nI 1)) 40 (nI (((gm_name cs (sA i0) (eA i0)) + 2) + 1))) (tl2 := tl) (ts := [20]) hMO (pd_kx.tr (pd_kx.tr (pd_kx.tr (pd_kx.tr (pd_kx.tr (pd_kx.tr (pd_kx.tr (pd_kx.tr (pd_kq.kx (k2) hy0) (pd_kq.kx (k9) f3)) (pd_kq.kx (k1002) f10)) (pd_kq.kx (k1009) f1003)) (pd_kq.kx (k1324) f1010)) (pd_kq.kx (k1331) f1325)) (pd_kq.kx (k1338) f1332)) (pd_kq.kx (k1390) f1339)) (pd_kq.kx (k1397) f1391)) f1398 (fun j hj => Or.inr ⟨fun z => by first | (simp at z; done) | (simp at z; omega), rfl⟩)), fun t9 ht9 => by rw [hp] at ht9; cases ht9; exact ⟨rfl, rfl, rfl, rfl⟩⟩ (by decide) (by decide) d_p15m16_257
                        · -- not taken: 194
                          refine lv_iconst (v := nI 0) hx hb d_p15m16_194 (by decide) ?_
                          have hpt : gm_pt cs ((gm_name cs (sA i0) (eA i0)) + 2) (eA i0) = none := by unfold gm_pt; rw [if_neg (by omega), if_pos (by omega)]
                          have hp : gm_pat cs (sA i0) (eA i0) = none := by unfold gm_pat; rw [hph]; simp only [hpt]
                          refine W.eq (g2 := F0 m 195 ls [.int (pd_b false)]) rfl ?_
                          exact pd_zret (v := false) X w ⟨by rw [hp]; rfl, pd_kx.tr (pd_kx.tr (pd_kx.tr (pd_kx.tr (pd_kx.tr (pd_kx.tr (pd_kq.kx (k2) hy0) (pd_kq.kx (k9) f3)) (pd_kq.kx (k1002) f10)) (pd_kq.kx (k1009) f1003)) (pd_kq.kx (k1324) f1010)) (pd_kq.kx (k1331) f1325)) (pd_kq.kx (k1338) f1332), (nI 1), (nI (gm_name cs (sA i0) (eA i0))), (nI 0), (nI (eA i0)), (pd_MO.of (fv2 := fv) (iv2 := pd_fu (pd_fu (pd_fu (pd_fu iv 37 (nI 1)) 38 (nI (gm_name cs (sA i0) (eA i0)))) 39 (nI 0)) 40 (nI (eA i0))) (tl2 := tl) (ts := [20]) hMO (pd_kx.tr (pd_kx.tr (pd_kx.tr (pd_kx.tr (pd_kx.tr (pd_kx.tr (pd_kq.kx (k2) hy0) (pd_kq.kx (k9) f3)) (pd_kq.kx (k1002) f10)) (pd_kq.kx (k1009) f1003)) (pd_kq.kx (k1324) f1010)) (pd_kq.kx (k1331) f1325)) (pd_kq.kx (k1338) f1332)) f1339 (fun j hj => Or.inr ⟨fun z => by first | (simp at z; done) | (simp at z; omega), rfl⟩)), fun t9 ht9 => by rw [hp] at ht9; cases ht9⟩ (by decide) (by decide) d_p15m16_195
                    · -- not taken: 174
                      refine lv_iconst (v := nI 1) hx hb d_p15m16_174 (by decide) ?_
                      have hpt : gm_pt cs ((gm_name cs (sA i0) (eA i0)) + 2) (eA i0) = some (0, eA i0) := by unfold gm_pt; rw [if_pos (by omega)]
                      have hp : gm_pat cs (sA i0) (eA i0) = some (1, gm_name cs (sA i0) (eA i0), 0, eA i0) := by unfold gm_pat; rw [hph]; simp only [hpt]
                      refine W.eq (g2 := F0 m 175 ls [.int (pd_b true)]) rfl ?_
                      exact pd_zret (v := true) X w ⟨by rw [hp]; rfl, pd_kx.tr (pd_kx.tr (pd_kx.tr (pd_kx.tr (pd_kx.tr (pd_kx.tr (pd_kq.kx (k2) hy0) (pd_kq.kx (k9) f3)) (pd_kq.kx (k1002) f10)) (pd_kq.kx (k1009) f1003)) (pd_kq.kx (k1324) f1010)) (pd_kq.kx (k1331) f1325)) (pd_kq.kx (k1338) f1332), (nI 1), (nI (gm_name cs (sA i0) (eA i0))), (nI 0), (nI (eA i0)), (pd_MO.of (fv2 := fv) (iv2 := pd_fu (pd_fu (pd_fu (pd_fu iv 37 (nI 1)) 38 (nI (gm_name cs (sA i0) (eA i0)))) 39 (nI 0)) 40 (nI (eA i0))) (tl2 := tl) (ts := [20]) hMO (pd_kx.tr (pd_kx.tr (pd_kx.tr (pd_kx.tr (pd_kx.tr (pd_kx.tr (pd_kq.kx (k2) hy0) (pd_kq.kx (k9) f3)) (pd_kq.kx (k1002) f10)) (pd_kq.kx (k1009) f1003)) (pd_kq.kx (k1324) f1010)) (pd_kq.kx (k1331) f1325)) (pd_kq.kx (k1338) f1332)) f1339 (fun j hj => Or.inr ⟨fun z => by first | (simp at z; done) | (simp at z; omega), rfl⟩)), fun t9 ht9 => by rw [hp] at ht9; cases ht9; exact ⟨rfl, rfl, rfl, rfl⟩⟩ (by decide) (by decide) d_p15m16_175
                  · -- not taken: 142
                    refine lv_iconst (v := nI 2) hx hb d_p15m16_142 (by decide) ?_
                    refine lv_goto (tgt := 147) hx hb d_p15m16_143 (by decide) ?_
                    refine pd_put (ty := .int) X w f1010 hz_y rfl 37 (by decide) mT_1176 rfl rfl (by decide +kernel) rfl rfl (Nat.le_of_ble_eq_true rfl) d_p15m16_147 (fun H locs w => ?_)
                    have w : pd_w G s H locs (pd_up h1008 y (20, .inr (10, [.ref (ad 0), .ref (ad 1), .ref (ad 2), .int (iv 3), .int (iv 4), .int (iv 5), .ref (ad 6), .ref (ad 7), .ref (ad 8), .ref (ad 9), .ref (ad 10), .ref (ad 11), .int (iv 12), .ref (ad 13), .ref (ad 14), .ref (ad 15), .ref (ad 16), .ref (ad 17), .ref (ad 18), .ref (ad 19), .int (iv 20), .ref (ad 21), .ref (ad 22), .ref (ad 23), .ref (ad 24), .ref (ad 25), .ref (ad 26), .ref (ad 27), .ref (ad 28), .int (iv 29), .ref (ad 30), .ref (ad 31), .int (iv 32), .int (iv 33), .int (iv 34), .int (iv 35), .long tl, .int (nI 2), .int (nI (gm_name cs (sA i0) (eA i0))), .int (iv 39), .int (iv 40), .ref (ad 41), .ref (ad 42), .int (iv 43)]))) := w
                    obtain ⟨h1404, u1407⟩ : ∃ z, z = pd_up h1008 y (20, .inr (10, [.ref (ad 0), .ref (ad 1), .ref (ad 2), .int (iv 3), .int (iv 4), .int (iv 5), .ref (ad 6), .ref (ad 7), .ref (ad 8), .ref (ad 9), .ref (ad 10), .ref (ad 11), .int (iv 12), .ref (ad 13), .ref (ad 14), .ref (ad 15), .ref (ad 16), .ref (ad 17), .ref (ad 18), .ref (ad 19), .int (iv 20), .ref (ad 21), .ref (ad 22), .ref (ad 23), .ref (ad 24), .ref (ad 25), .ref (ad 26), .ref (ad 27), .ref (ad 28), .int (iv 29), .ref (ad 30), .ref (ad 31), .int (iv 32), .int (iv 33), .int (iv 34), .int (iv 35), .long tl, .int (nI 2), .int (nI (gm_name cs (sA i0) (eA i0))), .int (iv 39), .int (iv 40), .ref (ad 41), .ref (ad 42), .int (iv 43)])) := ⟨_, rfl⟩
                    rw [← u1407] at w
                    have k1405 : pd_kq y h1008 h1404 := by rw [u1407]; exact pd_up_kq
                    have f1406 : h1404 y = some (20, .inr (10, [.ref (ad 0), .ref (ad 1), .ref (ad 2), .int (iv 3), .int (iv 4), .int (iv 5), .ref (ad 6), .ref (ad 7), .ref (ad 8), .ref (ad 9), .ref (ad 10), .ref (ad 11), .int (iv 12), .ref (ad 13), .ref (ad 14), .ref (ad 15), .ref (ad 16), .ref (ad 17), .ref (ad 18), .ref (ad 19), .int (iv 20), .ref (ad 21), .ref (ad 22), .ref (ad 23), .ref (ad 24), .ref (ad 25), .ref (ad 26), .ref (ad 27), .ref (ad 28), .int (iv 29), .ref (ad 30), .ref (ad 31), .int (iv 32), .int (iv 33), .int (iv 34), .int (iv 35), .long tl, .int (nI 2), .int (nI (gm_name cs (sA i0) (eA i0))), .int (iv 39), .int (iv 40), .ref (ad 41), .ref (ad 42), .int (iv 43)])) := by rw [u1407]; exact pd_up_s _ _ _
                    have f1408 := k1405 _ _ (pd_ne f1012 f1010 (by simp)) f1012
                    have f1409 := k1405 _ _ (pd_ne f1013 f1010 (by simp)) f1013
                    have f1410 := k1405 _ _ (pd_ne f1014 f1010 (by simp)) f1014
                    refine lv_iload_n hx hb d_p15m16_150 rfl (lv_at hl 0 rfl) ?_
                    refine lv_iconst (v := nI 1) hx hb d_p15m16_151 (by decide) ?_
                    refine lv_aload_n hx hb d_p15m16_152 rfl (lv_at hl 2 rfl) ?_
                    refine pd_get X w f1406 rfl 37 (by decide) mT_1176 rfl rfl d_p15m16_153 ?_
                    refine pd_iadd hx hb d_p15m16_156 ?_
                    refine pd_iadd hx hb d_p15m16_157 ?_
                    refine lv_istore_n (lv' := [(2, .int (nI ((gm_name cs (sA i0) (eA i0)) + 3))), (3, .int (nI (eA i0))), (0, .ref y), (1, .int (nI i0))]) hx hb d_p15m16_158 rfl hl (by decide) rfl (fun ls hl => ?_)
                    have hph : gm_ph cs (sA i0) (eA i0) = some (2, gm_name cs (sA i0) (eA i0), (gm_name cs (sA i0) (eA i0)) + 3) := by unfold gm_ph; rw [if_neg (by omega), if_neg (by omega), if_pos (by omega), if_pos (by omega)]
                    refine lv_aload_n hx hb d_p15m16_159 rfl (lv_at hl 2 rfl) ?_
                    refine lv_iconst (v := nI 0) hx hb d_p15m16_160 (by decide) ?_
                    refine pd_put (ty := .int) X w f1406 hz_y rfl 39 (by decide) mT_1178 rfl rfl (by decide +kernel) rfl rfl (Nat.le_of_ble_eq_true rfl) d_p15m16_161 (fun H locs w => ?_)
                    have w : pd_w G s H locs (pd_up h1404 y (20, .inr (10, [.ref (ad 0), .ref (ad 1), .ref (ad 2), .int (iv 3), .int (iv 4), .int (iv 5), .ref (ad 6), .ref (ad 7), .ref (ad 8), .ref (ad 9), .ref (ad 10), .ref (ad 11), .int (iv 12), .ref (ad 13), .ref (ad 14), .ref (ad 15), .ref (ad 16), .ref (ad 17), .ref (ad 18), .ref (ad 19), .int (iv 20), .ref (ad 21), .ref (ad 22), .ref (ad 23), .ref (ad 24), .ref (ad 25), .ref (ad 26), .ref (ad 27), .ref (ad 28), .int (iv 29), .ref (ad 30), .ref (ad 31), .int (iv 32), .int (iv 33), .int (iv 34), .int (iv 35), .long tl, .int (nI 2), .int (nI (gm_name cs (sA i0) (eA i0))), .int (nI 0), .int (iv 40), .ref (ad 41), .ref (ad 42), .int (iv 43)]))) := w
                    obtain ⟨h1411, u1414⟩ : ∃ z, z = pd_up h1404 y (20, .inr (10, [.ref (ad 0), .ref (ad 1), .ref (ad 2), .int (iv 3), .int (iv 4), .int (iv 5), .ref (ad 6), .ref (ad 7), .ref (ad 8), .ref (ad 9), .ref (ad 10), .ref (ad 11), .int (iv 12), .ref (ad 13), .ref (ad 14), .ref (ad 15), .ref (ad 16), .ref (ad 17), .ref (ad 18), .ref (ad 19), .int (iv 20), .ref (ad 21), .ref (ad 22), .ref (ad 23), .ref (ad 24), .ref (ad 25), .ref (ad 26), .ref (ad 27), .ref (ad 28), .int (iv 29), .ref (ad 30), .ref (ad 31), .int (iv 32), .int (iv 33), .int (iv 34), .int (iv 35), .long tl, .int (nI 2), .int (nI (gm_name cs (sA i0) (eA i0))), .int (nI 0), .int (iv 40), .ref (ad 41), .ref (ad 42), .int (iv 43)])) := ⟨_, rfl⟩
                    rw [← u1414] at w
                    have k1412 : pd_kq y h1404 h1411 := by rw [u1414]; exact pd_up_kq
                    have f1413 : h1411 y = some (20, .inr (10, [.ref (ad 0), .ref (ad 1), .ref (ad 2), .int (iv 3), .int (iv 4), .int (iv 5), .ref (ad 6), .ref (ad 7), .ref (ad 8), .ref (ad 9), .ref (ad 10), .ref (ad 11), .int (iv 12), .ref (ad 13), .ref (ad 14), .ref (ad 15), .ref (ad 16), .ref (ad 17), .ref (ad 18), .ref (ad 19), .int (iv 20), .ref (ad 21), .ref (ad 22), .ref (ad 23), .ref (ad 24), .ref (ad 25), .ref (ad 26), .ref (ad 27), .ref (ad 28), .int (iv 29), .ref (ad 30), .ref (ad 31), .int (iv 32), .int (iv 33), .int (iv 34), .int (iv 35), .long tl, .int (nI 2), .int (nI (gm_name cs (sA i0) (eA i0))), .int (nI 0), .int (iv 40), .ref (ad 41), .ref (ad 42), .int (iv 43)])) := by rw [u1414]; exact pd_up_s _ _ _
                    have f1415 := k1412 _ _ (pd_ne f1408 f1406 (by simp)) f1408
                    have f1416 := k1412 _ _ (pd_ne f1409 f1406 (by simp)) f1409
                    have f1417 := k1412 _ _ (pd_ne f1410 f1406 (by simp)) f1410
                    refine lv_aload_n hx hb d_p15m16_164 rfl (lv_at hl 2 rfl) ?_
                    refine lv_iload_n hx hb d_p15m16_165 rfl (lv_at hl 1 rfl) ?_
                    refine pd_put (ty := .int) X w f1413 hz_y rfl 40 (by decide) mT_1179 rfl rfl (by decide +kernel) rfl rfl (Nat.le_of_ble_eq_true rfl) d_p15m16_166 (fun H locs w => ?_)
                    have w : pd_w G s H locs (pd_up h1411 y (20, .inr (10, [.ref (ad 0), .ref (ad 1), .ref (ad 2), .int (iv 3), .int (iv 4), .int (iv 5), .ref (ad 6), .ref (ad 7), .ref (ad 8), .ref (ad 9), .ref (ad 10), .ref (ad 11), .int (iv 12), .ref (ad 13), .ref (ad 14), .ref (ad 15), .ref (ad 16), .ref (ad 17), .ref (ad 18), .ref (ad 19), .int (iv 20), .ref (ad 21), .ref (ad 22), .ref (ad 23), .ref (ad 24), .ref (ad 25), .ref (ad 26), .ref (ad 27), .ref (ad 28), .int (iv 29), .ref (ad 30), .ref (ad 31), .int (iv 32), .int (iv 33), .int (iv 34), .int (iv 35), .long tl, .int (nI 2), .int (nI (gm_name cs (sA i0) (eA i0))), .int (nI 0), .int (nI (eA i0)), .ref (ad 41), .ref (ad 42), .int (iv 43)]))) := w
                    obtain ⟨h1418, u1421⟩ : ∃ z, z = pd_up h1411 y (20, .inr (10, [.ref (ad 0), .ref (ad 1), .ref (ad 2), .int (iv 3), .int (iv 4), .int (iv 5), .ref (ad 6), .ref (ad 7), .ref (ad 8), .ref (ad 9), .ref (ad 10), .ref (ad 11), .int (iv 12), .ref (ad 13), .ref (ad 14), .ref (ad 15), .ref (ad 16), .ref (ad 17), .ref (ad 18), .ref (ad 19), .int (iv 20), .ref (ad 21), .ref (ad 22), .ref (ad 23), .ref (ad 24), .ref (ad 25), .ref (ad 26), .ref (ad 27), .ref (ad 28), .int (iv 29), .ref (ad 30), .ref (ad 31), .int (iv 32), .int (iv 33), .int (iv 34), .int (iv 35), .long tl, .int (nI 2), .int (nI (gm_name cs (sA i0) (eA i0))), .int (nI 0), .int (nI (eA i0)), .ref (ad 41), .ref (ad 42), .int (iv 43)])) := ⟨_, rfl⟩
                    rw [← u1421] at w
                    have k1419 : pd_kq y h1411 h1418 := by rw [u1421]; exact pd_up_kq
                    have f1420 : h1418 y = some (20, .inr (10, [.ref (ad 0), .ref (ad 1), .ref (ad 2), .int (iv 3), .int (iv 4), .int (iv 5), .ref (ad 6), .ref (ad 7), .ref (ad 8), .ref (ad 9), .ref (ad 10), .ref (ad 11), .int (iv 12), .ref (ad 13), .ref (ad 14), .ref (ad 15), .ref (ad 16), .ref (ad 17), .ref (ad 18), .ref (ad 19), .int (iv 20), .ref (ad 21), .ref (ad 22), .ref (ad 23), .ref (ad 24), .ref (ad 25), .ref (ad 26), .ref (ad 27), .ref (ad 28), .int (iv 29), .ref (ad 30), .ref (ad 31), .int (iv 32), .int (iv 33), .int (iv 34), .int (iv 35), .long tl, .int (nI 2), .int (nI (gm_name cs (sA i0) (eA i0))), .int (nI 0), .int (nI (eA i0)), .ref (ad 41), .ref (ad 42), .int (iv 43)])) := by rw [u1421]; exact pd_up_s _ _ _
                    have f1422 := k1419 _ _ (pd_ne f1415 f1413 (by simp)) f1415
                    have f1423 := k1419 _ _ (pd_ne f1416 f1413 (by simp)) f1416
                    have f1424 := k1419 _ _ (pd_ne f1417 f1413 (by simp)) f1417
                    refine lv_iload_n hx hb d_p15m16_169 rfl (lv_at hl 0 rfl) ?_
                    refine lv_iload_n hx hb d_p15m16_170 rfl (lv_at hl 1 rfl) ?_
                    refine pd_jne (tgt := 176) hx hb d_p15m16_171 (by decide) (by omega) (by omega) (fun q1425 => ?_) (fun q1425 => ?_)
                    · -- taken: 176
                      refine lv_aload_n hx hb d_p15m16_176 rfl (lv_at hl 2 rfl) ?_
                      refine pd_get X w f1420 rfl 0 (by decide) mT_1139 rfl rfl d_p15m16_177 ?_
                      refine lv_iload_n hx hb d_p15m16_180 rfl (lv_at hl 0 rfl) ?_
                      refine pd_iald X w f1422 (by omega) (by omega) d_p15m16_181 ?_
                      refine pd_top (v' := .int (nI (cs.getD ((gm_name cs (sA i0) (eA i0)) + 3) 0))) (congrArg Value.int (hln _ (by omega))) ?_
                      have := tx_lt hlc ((gm_name cs (sA i0) (eA i0)) + 3)
                      refine lv_bipush (v := nI 46) hx hb d_p15m16_182 (by decide) ?_
                      refine pd_jne (tgt := 194) hx hb d_p15m16_184 (by decide) (by omega) (by omega) (fun q1426 => ?_) (fun q1426 => ?_)
                      · -- taken: 194
                        refine lv_iconst (v := nI 0) hx hb d_p15m16_194 (by decide) ?_
                        have hpt : gm_pt cs ((gm_name cs (sA i0) (eA i0)) + 3) (eA i0) = none := by unfold gm_pt; rw [if_neg (by omega), if_pos (by omega)]
                        have hp : gm_pat cs (sA i0) (eA i0) = none := by unfold gm_pat; rw [hph]; simp only [hpt]
                        refine W.eq (g2 := F0 m 195 ls [.int (pd_b false)]) rfl ?_
                        exact pd_zret (v := false) X w ⟨by rw [hp]; rfl, pd_kx.tr (pd_kx.tr (pd_kx.tr (pd_kx.tr (pd_kx.tr (pd_kx.tr (pd_kq.kx (k2) hy0) (pd_kq.kx (k9) f3)) (pd_kq.kx (k1002) f10)) (pd_kq.kx (k1009) f1003)) (pd_kq.kx (k1405) f1010)) (pd_kq.kx (k1412) f1406)) (pd_kq.kx (k1419) f1413), (nI 2), (nI (gm_name cs (sA i0) (eA i0))), (nI 0), (nI (eA i0)), (pd_MO.of (fv2 := fv) (iv2 := pd_fu (pd_fu (pd_fu (pd_fu iv 37 (nI 2)) 38 (nI (gm_name cs (sA i0) (eA i0)))) 39 (nI 0)) 40 (nI (eA i0))) (tl2 := tl) (ts := [20]) hMO (pd_kx.tr (pd_kx.tr (pd_kx.tr (pd_kx.tr (pd_kx.tr (pd_kx.tr (pd_kq.kx (k2) hy0) (pd_kq.kx (k9) f3)) (pd_kq.kx (k1002) f10)) (pd_kq.kx (k1009) f1003)) (pd_kq.kx (k1405) f1010)) (pd_kq.kx (k1412) f1406)) (pd_kq.kx (k1419) f1413)) f1420 (fun j hj => Or.inr ⟨fun z => by first | (simp at z; done) | (simp at z; omega), rfl⟩)), fun t9 ht9 => by rw [hp] at ht9; cases ht9⟩ (by decide) (by decide) d_p15m16_195
                      · -- not taken: 187
                        refine lv_iload_n hx hb d_p15m16_187 rfl (lv_at hl 0 rfl) ?_
                        refine lv_iconst (v := nI 1) hx hb d_p15m16_188 (by decide) ?_
                        refine pd_iadd hx hb d_p15m16_189 ?_
                        refine lv_iload_n hx hb d_p15m16_190 rfl (lv_at hl 1 rfl) ?_
                        refine pd_jne (tgt := 196) hx hb d_p15m16_191 (by decide) (by omega) (by omega) (fun q1427 => ?_) (fun q1427 => ?_)
                        · -- taken: 196
                          refine lv_aload_n hx hb d_p15m16_196 rfl (lv_at hl 2 rfl) ?_
                          refine lv_aload_n hx hb d_p15m16_197 rfl (lv_at hl 2 rfl) ?_
                          refine pd_get X w f1420 rfl 0 (by decide) mT_1139 rfl rfl d_p15m16_198 ?_
                          refine lv_iload_n hx hb d_p15m16_201 rfl (lv_at hl 0 rfl) ?_
                          refine lv_iconst (v := nI 1) hx hb d_p15m16_202 (by decide) ?_
                          refine pd_iadd hx hb d_p15m16_203 ?_
                          refine pd_iald X w f1422 (by omega) (by omega) d_p15m16_204 ?_
                          refine pd_top (v' := .int (nI (cs.getD (((gm_name cs (sA i0) (eA i0)) + 3) + 1) 0))) (congrArg Value.int (hln _ (by omega))) ?_
                          have := tx_lt hlc (((gm_name cs (sA i0) (eA i0)) + 3) + 1)
                          refine lv_bipush (v := nI 42) hx hb d_p15m16_205 (by decide) ?_
                          refine pd_jne (tgt := 221) hx hb d_p15m16_207 (by decide) (by omega) (by omega) (fun q1428 => ?_) (fun q1428 => ?_)
                          · -- taken: 221
                            refine lv_iconst (v := nI 2) hx hb d_p15m16_221 (by decide) ?_
                            refine pd_put (ty := .int) X w f1420 hz_y rfl 39 (by decide) mT_1178 rfl rfl (by decide +kernel) rfl rfl (Nat.le_of_ble_eq_true rfl) d_p15m16_222 (fun H locs w => ?_)
                            have w : pd_w G s H locs (pd_up h1418 y (20, .inr (10, [.ref (ad 0), .ref (ad 1), .ref (ad 2), .int (iv 3), .int (iv 4), .int (iv 5), .ref (ad 6), .ref (ad 7), .ref (ad 8), .ref (ad 9), .ref (ad 10), .ref (ad 11), .int (iv 12), .ref (ad 13), .ref (ad 14), .ref (ad 15), .ref (ad 16), .ref (ad 17), .ref (ad 18), .ref (ad 19), .int (iv 20), .ref (ad 21), .ref (ad 22), .ref (ad 23), .ref (ad 24), .ref (ad 25), .ref (ad 26), .ref (ad 27), .ref (ad 28), .int (iv 29), .ref (ad 30), .ref (ad 31), .int (iv 32), .int (iv 33), .int (iv 34), .int (iv 35), .long tl, .int (nI 2), .int (nI (gm_name cs (sA i0) (eA i0))), .int (nI 2), .int (nI (eA i0)), .ref (ad 41), .ref (ad 42), .int (iv 43)]))) := w
                            obtain ⟨h1429, u1432⟩ : ∃ z, z = pd_up h1418 y (20, .inr (10, [.ref (ad 0), .ref (ad 1), .ref (ad 2), .int (iv 3), .int (iv 4), .int (iv 5), .ref (ad 6), .ref (ad 7), .ref (ad 8), .ref (ad 9), .ref (ad 10), .ref (ad 11), .int (iv 12), .ref (ad 13), .ref (ad 14), .ref (ad 15), .ref (ad 16), .ref (ad 17), .ref (ad 18), .ref (ad 19), .int (iv 20), .ref (ad 21), .ref (ad 22), .ref (ad 23), .ref (ad 24), .ref (ad 25), .ref (ad 26), .ref (ad 27), .ref (ad 28), .int (iv 29), .ref (ad 30), .ref (ad 31), .int (iv 32), .int (iv 33), .int (iv 34), .int (iv 35), .long tl, .int (nI 2), .int (nI (gm_name cs (sA i0) (eA i0))), .int (nI 2), .int (nI (eA i0)), .ref (ad 41), .ref (ad 42), .int (iv 43)])) := ⟨_, rfl⟩
                            rw [← u1432] at w
                            have k1430 : pd_kq y h1418 h1429 := by rw [u1432]; exact pd_up_kq
                            have f1431 : h1429 y = some (20, .inr (10, [.ref (ad 0), .ref (ad 1), .ref (ad 2), .int (iv 3), .int (iv 4), .int (iv 5), .ref (ad 6), .ref (ad 7), .ref (ad 8), .ref (ad 9), .ref (ad 10), .ref (ad 11), .int (iv 12), .ref (ad 13), .ref (ad 14), .ref (ad 15), .ref (ad 16), .ref (ad 17), .ref (ad 18), .ref (ad 19), .int (iv 20), .ref (ad 21), .ref (ad 22), .ref (ad 23), .ref (ad 24), .ref (ad 25), .ref (ad 26), .ref (ad 27), .ref (ad 28), .int (iv 29), .ref (ad 30), .ref (ad 31), .int (iv 32), .int (iv 33), .int (iv 34), .int (iv 35), .long tl, .int (nI 2), .int (nI (gm_name cs (sA i0) (eA i0))), .int (nI 2), .int (nI (eA i0)), .ref (ad 41), .ref (ad 42), .int (iv 43)])) := by rw [u1432]; exact pd_up_s _ _ _
                            have f1433 := k1430 _ _ (pd_ne f1422 f1420 (by simp)) f1422
                            have f1434 := k1430 _ _ (pd_ne f1423 f1420 (by simp)) f1423
                            have f1435 := k1430 _ _ (pd_ne f1424 f1420 (by simp)) f1424
                            refine lv_aload_n hx hb d_p15m16_225 rfl (lv_at hl 2 rfl) ?_
                            refine lv_iload_n hx hb d_p15m16_226 rfl (lv_at hl 0 rfl) ?_
                            refine lv_iconst (v := nI 1) hx hb d_p15m16_227 (by decide) ?_
                            refine pd_iadd hx hb d_p15m16_228 ?_
                            refine pd_put (ty := .int) X w f1431 hz_y rfl 40 (by decide) mT_1179 rfl rfl (by decide +kernel) rfl rfl (Nat.le_of_ble_eq_true rfl) d_p15m16_229 (fun H locs w => ?_)
                            have w : pd_w G s H locs (pd_up h1429 y (20, .inr (10, [.ref (ad 0), .ref (ad 1), .ref (ad 2), .int (iv 3), .int (iv 4), .int (iv 5), .ref (ad 6), .ref (ad 7), .ref (ad 8), .ref (ad 9), .ref (ad 10), .ref (ad 11), .int (iv 12), .ref (ad 13), .ref (ad 14), .ref (ad 15), .ref (ad 16), .ref (ad 17), .ref (ad 18), .ref (ad 19), .int (iv 20), .ref (ad 21), .ref (ad 22), .ref (ad 23), .ref (ad 24), .ref (ad 25), .ref (ad 26), .ref (ad 27), .ref (ad 28), .int (iv 29), .ref (ad 30), .ref (ad 31), .int (iv 32), .int (iv 33), .int (iv 34), .int (iv 35), .long tl, .int (nI 2), .int (nI (gm_name cs (sA i0) (eA i0))), .int (nI 2), .int (nI (((gm_name cs (sA i0) (eA i0)) + 3) + 1)), .ref (ad 41), .ref (ad 42), .int (iv 43)]))) := w
                            obtain ⟨h1436, u1439⟩ : ∃ z, z = pd_up h1429 y (20, .inr (10, [.ref (ad 0), .ref (ad 1), .ref (ad 2), .int (iv 3), .int (iv 4), .int (iv 5), .ref (ad 6), .ref (ad 7), .ref (ad 8), .ref (ad 9), .ref (ad 10), .ref (ad 11), .int (iv 12), .ref (ad 13), .ref (ad 14), .ref (ad 15), .ref (ad 16), .ref (ad 17), .ref (ad 18), .ref (ad 19), .int (iv 20), .ref (ad 21), .ref (ad 22), .ref (ad 23), .ref (ad 24), .ref (ad 25), .ref (ad 26), .ref (ad 27), .ref (ad 28), .int (iv 29), .ref (ad 30), .ref (ad 31), .int (iv 32), .int (iv 33), .int (iv 34), .int (iv 35), .long tl, .int (nI 2), .int (nI (gm_name cs (sA i0) (eA i0))), .int (nI 2), .int (nI (((gm_name cs (sA i0) (eA i0)) + 3) + 1)), .ref (ad 41), .ref (ad 42), .int (iv 43)])) := ⟨_, rfl⟩
                            rw [← u1439] at w
                            have k1437 : pd_kq y h1429 h1436 := by rw [u1439]; exact pd_up_kq
                            have f1438 : h1436 y = some (20, .inr (10, [.ref (ad 0), .ref (ad 1), .ref (ad 2), .int (iv 3), .int (iv 4), .int (iv 5), .ref (ad 6), .ref (ad 7), .ref (ad 8), .ref (ad 9), .ref (ad 10), .ref (ad 11), .int (iv 12), .ref (ad 13), .ref (ad 14), .ref (ad 15), .ref (ad 16), .ref (ad 17), .ref (ad 18), .ref (ad 19), .int (iv 20), .ref (ad 21), .ref (ad 22), .ref (ad 23), .ref (ad 24), .ref (ad 25), .ref (ad 26), .ref (ad 27), .ref (ad 28), .int (iv 29), .ref (ad 30), .ref (ad 31), .int (iv 32), .int (iv 33), .int (iv 34), .int (iv 35), .long tl, .int (nI 2), .int (nI (gm_name cs (sA i0) (eA i0))), .int (nI 2), .int (nI (((gm_name cs (sA i0) (eA i0)) + 3) + 1)), .ref (ad 41), .ref (ad 42), .int (iv 43)])) := by rw [u1439]; exact pd_up_s _ _ _
                            have f1440 := k1437 _ _ (pd_ne f1433 f1431 (by simp)) f1433
                            have f1441 := k1437 _ _ (pd_ne f1434 f1431 (by simp)) f1434
                            have f1442 := k1437 _ _ (pd_ne f1435 f1431 (by simp)) f1435
                            refine lv_aload_n hx hb d_p15m16_232 rfl (lv_at hl 2 rfl) ?_
                            refine pd_get X w f1438 rfl 39 (by decide) mT_1178 rfl rfl d_p15m16_233 ?_
                            refine lv_iconst (v := nI 1) hx hb d_p15m16_236 (by decide) ?_
                            refine pd_jeq (tgt := 252) hx hb d_p15m16_237 (by decide) (by decide) (by decide) (fun q => absurd q (by decide)) (fun _ => ?_)
                            refine lv_aload_n hx hb d_p15m16_240 rfl (lv_at hl 2 rfl) ?_
                            refine lv_iload_n hx hb d_p15m16_241 rfl (lv_at hl 0 rfl) ?_
                            refine lv_iconst (v := nI 1) hx hb d_p15m16_242 (by decide) ?_
                            refine pd_iadd hx hb d_p15m16_243 ?_
                            refine lv_iload_n hx hb d_p15m16_244 rfl (lv_at hl 1 rfl) ?_
                            refine pd_cV (a := y) (As := [.int (nI (((gm_name cs (sA i0) (eA i0)) + 3) + 1)), .int (nI (eA i0))]) (rest := []) X w f1438 rfl (c_PolicyDeskModel_behindPart l G h1436 (ad := ad) (fv := fv) (iv := pd_fu (pd_fu (pd_fu (pd_fu iv 37 (nI 2)) 38 (nI (gm_name cs (sA i0) (eA i0)))) 39 (nI 2)) 40 (nI (((gm_name cs (sA i0) (eA i0)) + 3) + 1))) (tl := tl) (pd_MO.of (fv2 := fv) (iv2 := pd_fu (pd_fu (pd_fu (pd_fu iv 37 (nI 2)) 38 (nI (gm_name cs (sA i0) (eA i0)))) 39 (nI 2)) 40 (nI (((gm_name cs (sA i0) (eA i0)) + 3) + 1))) (tl2 := tl) (ts := [20]) hMO (pd_kx.tr (pd_kx.tr (pd_kx.tr (pd_kx.tr (pd_kx.tr (pd_kx.tr (pd_kx.tr (pd_kx.tr (pd_kq.kx (k2) hy0) (pd_kq.kx (k9) f3)) (pd_kq.kx (k1002) f10)) (pd_kq.kx (k1009) f1003)) (pd_kq.kx (k1405) f1010)) (pd_kq.kx (k1412) f1406)) (pd_kq.kx (k1419) f1413)) (pd_kq.kx (k1430) f1420)) (pd_kq.kx (k1437) f1431)) f1438 (fun j hj => Or.inr ⟨fun z => by first | (simp at z; done) | (simp at z; omega), rfl⟩)) hL (by omega) (by omega)) ok_PolicyDeskModel_behindPart ⟨mT_1315, sT_19⟩ mT_1313 ⟨by decide, by decide⟩ rfl hl.1 rfl (Nat.le_of_ble_eq_true rfl) d_p15m16_245 ⟨by decide, by decide⟩ (fun r1444 h1445 H locs hp1446 w => ?_)
                            refine W.widen (k := 0) (n := 0) (by decide) (by decide) ?_
                            obtain ⟨e1447, rfl⟩ := hp1446
                            have hpl := gm_part_le (cs := cs) (x := (gm_name cs (sA i0) (eA i0)) + 3 + 1) (to := eA i0) (by omega)
                            refine lv_iload_n hx hb d_p15m16_248 rfl (lv_at hl 1 rfl) ?_
                            refine pd_jne (tgt := 256) hx hb d_p15m16_249 (by decide) (by omega) (by omega) (fun q1448 => ?_) (fun q1448 => ?_)
                            · -- taken: 256
                              refine lv_iconst (v := nI 0) hx hb d_p15m16_256 (by decide) ?_
                              have hpt : gm_pt cs ((gm_name cs (sA i0) (eA i0)) + 3) (eA i0) = none := by unfold gm_pt; rw [if_neg (by omega), if_neg (by omega), if_neg (by omega), if_neg (by rw [← e1447]; omega)]
                              have hp : gm_pat cs (sA i0) (eA i0) = none := by unfold gm_pat; rw [hph]; simp only [hpt]
                              refine W.eq (g2 := F0 m 257 ls [.int (pd_b false)]) rfl ?_
                              exact pd_zret (v := false) X w ⟨by rw [hp]; rfl, pd_kx.tr (pd_kx.tr (pd_kx.tr (pd_kx.tr (pd_kx.tr (pd_kx.tr (pd_kx.tr (pd_kx.tr (pd_kq.kx (k2) hy0) (pd_kq.kx (k9) f3)) (pd_kq.kx (k1002) f10)) (pd_kq.kx (k1009) f1003)) (pd_kq.kx (k1405) f1010)) (pd_kq.kx (k1412) f1406)) (pd_kq.kx (k1419) f1413)) (pd_kq.kx (k1430) f1420)) (pd_kq.kx (k1437) f1431), (nI 2), (nI (gm_name cs (sA i0) (eA i0))), (nI 2), (nI (((gm_name cs (sA i0) (eA i0)) + 3) + 1)), (pd_MO.of (fv2 := fv) (iv2 := pd_fu (pd_fu (pd_fu (pd_fu iv 37 (nI 2)) 38 (nI (gm_name cs (sA i0) (eA i0)))) 39 (nI 2)) 40 (nI (((gm_name cs (sA i0) (eA i0)) + 3) + 1))) (tl2 := tl) (ts := [20]) hMO (pd_kx.tr (pd_kx.tr (pd_kx.tr (pd_kx.tr (pd_kx.tr (pd_kx.tr (pd_kx.tr (pd_kx.tr (pd_kq.kx (k2) hy0) (pd_kq.kx (k9) f3)) (pd_kq.kx (k1002) f10)) (pd_kq.kx (k1009) f1003)) (pd_kq.kx (k1405) f1010)) (pd_kq.kx (k1412) f1406)) (pd_kq.kx (k1419) f1413)) (pd_kq.kx (k1430) f1420)) (pd_kq.kx (k1437) f1431)) f1438 (fun j hj => Or.inr ⟨fun z => by first | (simp at z; done) | (simp at z; omega), rfl⟩)), fun t9 ht9 => by rw [hp] at ht9; cases ht9⟩ (by decide) (by decide) d_p15m16_257
                            · -- not taken: 252
                              refine lv_iconst (v := nI 1) hx hb d_p15m16_252 (by decide) ?_
                              refine lv_goto (tgt := 257) hx hb d_p15m16_253 (by decide) ?_
                              have hpt : gm_pt cs ((gm_name cs (sA i0) (eA i0)) + 3) (eA i0) = some (2, (gm_name cs (sA i0) (eA i0)) + 3 + 1) := by unfold gm_pt; rw [if_neg (by omega), if_neg (by omega), if_neg (by omega), if_pos (by rw [← e1447]; omega)]
                              have hp : gm_pat cs (sA i0) (eA i0) = some (2, gm_name cs (sA i0) (eA i0), 2, (gm_name cs (sA i0) (eA i0)) + 3 + 1) := by unfold gm_pat; rw [hph]; simp only [hpt]
                              refine W.eq (g2 := F0 m 257 ls [.int (pd_b true)]) rfl ?_
                              exact pd_zret (v := true) X w ⟨by rw [hp]; rfl, pd_kx.tr (pd_kx.tr (pd_kx.tr (pd_kx.tr (pd_kx.tr (pd_kx.tr (pd_kx.tr (pd_kx.tr (pd_kq.kx (k2) hy0) (pd_kq.kx (k9) f3)) (pd_kq.kx (k1002) f10)) (pd_kq.kx (k1009) f1003)) (pd_kq.kx (k1405) f1010)) (pd_kq.kx (k1412) f1406)) (pd_kq.kx (k1419) f1413)) (pd_kq.kx (k1430) f1420)) (pd_kq.kx (k1437) f1431), (nI 2), (nI (gm_name cs (sA i0) (eA i0))), (nI 2), (nI (((gm_name cs (sA i0) (eA i0)) + 3) + 1)), (pd_MO.of (fv2 := fv) (iv2 := pd_fu (pd_fu (pd_fu (pd_fu iv 37 (nI 2)) 38 (nI (gm_name cs (sA i0) (eA i0)))) 39 (nI 2)) 40 (nI (((gm_name cs (sA i0) (eA i0)) + 3) + 1))) (tl2 := tl) (ts := [20]) hMO (pd_kx.tr (pd_kx.tr (pd_kx.tr (pd_kx.tr (pd_kx.tr (pd_kx.tr (pd_kx.tr (pd_kx.tr (pd_kq.kx (k2) hy0) (pd_kq.kx (k9) f3)) (pd_kq.kx (k1002) f10)) (pd_kq.kx (k1009) f1003)) (pd_kq.kx (k1405) f1010)) (pd_kq.kx (k1412) f1406)) (pd_kq.kx (k1419) f1413)) (pd_kq.kx (k1430) f1420)) (pd_kq.kx (k1437) f1431)) f1438 (fun j hj => Or.inr ⟨fun z => by first | (simp at z; done) | (simp at z; omega), rfl⟩)), fun t9 ht9 => by rw [hp] at ht9; cases ht9; exact ⟨rfl, rfl, rfl, rfl⟩⟩ (by decide) (by decide) d_p15m16_257
                          · -- not taken: 210
                            refine lv_iload_n hx hb d_p15m16_210 rfl (lv_at hl 0 rfl) ?_
                            refine lv_iconst (v := nI 2) hx hb d_p15m16_211 (by decide) ?_
                            refine pd_iadd hx hb d_p15m16_212 ?_
                            refine lv_iload_n hx hb d_p15m16_213 rfl (lv_at hl 1 rfl) ?_
                            refine pd_jne (tgt := 221) hx hb d_p15m16_214 (by decide) (by omega) (by omega) (fun q1449 => ?_) (fun q1449 => ?_)
                            · -- taken: 221
                              refine lv_iconst (v := nI 2) hx hb d_p15m16_221 (by decide) ?_
                              refine pd_put (ty := .int) X w f1420 hz_y rfl 39 (by decide) mT_1178 rfl rfl (by decide +kernel) rfl rfl (Nat.le_of_ble_eq_true rfl) d_p15m16_222 (fun H locs w => ?_)
                              have w : pd_w G s H locs (pd_up h1418 y (20, .inr (10, [.ref (ad 0), .ref (ad 1), .ref (ad 2), .int (iv 3), .int (iv 4), .int (iv 5), .ref (ad 6), .ref (ad 7), .ref (ad 8), .ref (ad 9), .ref (ad 10), .ref (ad 11), .int (iv 12), .ref (ad 13), .ref (ad 14), .ref (ad 15), .ref (ad 16), .ref (ad 17), .ref (ad 18), .ref (ad 19), .int (iv 20), .ref (ad 21), .ref (ad 22), .ref (ad 23), .ref (ad 24), .ref (ad 25), .ref (ad 26), .ref (ad 27), .ref (ad 28), .int (iv 29), .ref (ad 30), .ref (ad 31), .int (iv 32), .int (iv 33), .int (iv 34), .int (iv 35), .long tl, .int (nI 2), .int (nI (gm_name cs (sA i0) (eA i0))), .int (nI 2), .int (nI (eA i0)), .ref (ad 41), .ref (ad 42), .int (iv 43)]))) := w
                              obtain ⟨h1450, u1453⟩ : ∃ z, z = pd_up h1418 y (20, .inr (10, [.ref (ad 0), .ref (ad 1), .ref (ad 2), .int (iv 3), .int (iv 4), .int (iv 5), .ref (ad 6), .ref (ad 7), .ref (ad 8), .ref (ad 9), .ref (ad 10), .ref (ad 11), .int (iv 12), .ref (ad 13), .ref (ad 14), .ref (ad 15), .ref (ad 16), .ref (ad 17), .ref (ad 18), .ref (ad 19), .int (iv 20), .ref (ad 21), .ref (ad 22), .ref (ad 23), .ref (ad 24), .ref (ad 25), .ref (ad 26), .ref (ad 27), .ref (ad 28), .int (iv 29), .ref (ad 30), .ref (ad 31), .int (iv 32), .int (iv 33), .int (iv 34), .int (iv 35), .long tl, .int (nI 2), .int (nI (gm_name cs (sA i0) (eA i0))), .int (nI 2), .int (nI (eA i0)), .ref (ad 41), .ref (ad 42), .int (iv 43)])) := ⟨_, rfl⟩
                              rw [← u1453] at w
                              have k1451 : pd_kq y h1418 h1450 := by rw [u1453]; exact pd_up_kq
                              have f1452 : h1450 y = some (20, .inr (10, [.ref (ad 0), .ref (ad 1), .ref (ad 2), .int (iv 3), .int (iv 4), .int (iv 5), .ref (ad 6), .ref (ad 7), .ref (ad 8), .ref (ad 9), .ref (ad 10), .ref (ad 11), .int (iv 12), .ref (ad 13), .ref (ad 14), .ref (ad 15), .ref (ad 16), .ref (ad 17), .ref (ad 18), .ref (ad 19), .int (iv 20), .ref (ad 21), .ref (ad 22), .ref (ad 23), .ref (ad 24), .ref (ad 25), .ref (ad 26), .ref (ad 27), .ref (ad 28), .int (iv 29), .ref (ad 30), .ref (ad 31), .int (iv 32), .int (iv 33), .int (iv 34), .int (iv 35), .long tl, .int (nI 2), .int (nI (gm_name cs (sA i0) (eA i0))), .int (nI 2), .int (nI (eA i0)), .ref (ad 41), .ref (ad 42), .int (iv 43)])) := by rw [u1453]; exact pd_up_s _ _ _
                              have f1454 := k1451 _ _ (pd_ne f1422 f1420 (by simp)) f1422
                              have f1455 := k1451 _ _ (pd_ne f1423 f1420 (by simp)) f1423
                              have f1456 := k1451 _ _ (pd_ne f1424 f1420 (by simp)) f1424
                              refine lv_aload_n hx hb d_p15m16_225 rfl (lv_at hl 2 rfl) ?_
                              refine lv_iload_n hx hb d_p15m16_226 rfl (lv_at hl 0 rfl) ?_
                              refine lv_iconst (v := nI 1) hx hb d_p15m16_227 (by decide) ?_
                              refine pd_iadd hx hb d_p15m16_228 ?_
                              refine pd_put (ty := .int) X w f1452 hz_y rfl 40 (by decide) mT_1179 rfl rfl (by decide +kernel) rfl rfl (Nat.le_of_ble_eq_true rfl) d_p15m16_229 (fun H locs w => ?_)
                              have w : pd_w G s H locs (pd_up h1450 y (20, .inr (10, [.ref (ad 0), .ref (ad 1), .ref (ad 2), .int (iv 3), .int (iv 4), .int (iv 5), .ref (ad 6), .ref (ad 7), .ref (ad 8), .ref (ad 9), .ref (ad 10), .ref (ad 11), .int (iv 12), .ref (ad 13), .ref (ad 14), .ref (ad 15), .ref (ad 16), .ref (ad 17), .ref (ad 18), .ref (ad 19), .int (iv 20), .ref (ad 21), .ref (ad 22), .ref (ad 23), .ref (ad 24), .ref (ad 25), .ref (ad 26), .ref (ad 27), .ref (ad 28), .int (iv 29), .ref (ad 30), .ref (ad 31), .int (iv 32), .int (iv 33), .int (iv 34), .int (iv 35), .long tl, .int (nI 2), .int (nI (gm_name cs (sA i0) (eA i0))), .int (nI 2), .int (nI (((gm_name cs (sA i0) (eA i0)) + 3) + 1)), .ref (ad 41), .ref (ad 42), .int (iv 43)]))) := w
                              obtain ⟨h1457, u1460⟩ : ∃ z, z = pd_up h1450 y (20, .inr (10, [.ref (ad 0), .ref (ad 1), .ref (ad 2), .int (iv 3), .int (iv 4), .int (iv 5), .ref (ad 6), .ref (ad 7), .ref (ad 8), .ref (ad 9), .ref (ad 10), .ref (ad 11), .int (iv 12), .ref (ad 13), .ref (ad 14), .ref (ad 15), .ref (ad 16), .ref (ad 17), .ref (ad 18), .ref (ad 19), .int (iv 20), .ref (ad 21), .ref (ad 22), .ref (ad 23), .ref (ad 24), .ref (ad 25), .ref (ad 26), .ref (ad 27), .ref (ad 28), .int (iv 29), .ref (ad 30), .ref (ad 31), .int (iv 32), .int (iv 33), .int (iv 34), .int (iv 35), .long tl, .int (nI 2), .int (nI (gm_name cs (sA i0) (eA i0))), .int (nI 2), .int (nI (((gm_name cs (sA i0) (eA i0)) + 3) + 1)), .ref (ad 41), .ref (ad 42), .int (iv 43)])) := ⟨_, rfl⟩
                              rw [← u1460] at w
                              have k1458 : pd_kq y h1450 h1457 := by rw [u1460]; exact pd_up_kq
                              have f1459 : h1457 y = some (20, .inr (10, [.ref (ad 0), .ref (ad 1), .ref (ad 2), .int (iv 3), .int (iv 4), .int (iv 5), .ref (ad 6), .ref (ad 7), .ref (ad 8), .ref (ad 9), .ref (ad 10), .ref (ad 11), .int (iv 12), .ref (ad 13), .ref (ad 14), .ref (ad 15), .ref (ad 16), .ref (ad 17), .ref (ad 18), .ref (ad 19), .int (iv 20), .ref (ad 21), .ref (ad 22), .ref (ad 23), .ref (ad 24), .ref (ad 25), .ref (ad 26), .ref (ad 27), .ref (ad 28), .int (iv 29), .ref (ad 30), .ref (ad 31), .int (iv 32), .int (iv 33), .int (iv 34), .int (iv 35), .long tl, .int (nI 2), .int (nI (gm_name cs (sA i0) (eA i0))), .int (nI 2), .int (nI (((gm_name cs (sA i0) (eA i0)) + 3) + 1)), .ref (ad 41), .ref (ad 42), .int (iv 43)])) := by rw [u1460]; exact pd_up_s _ _ _
                              have f1461 := k1458 _ _ (pd_ne f1454 f1452 (by simp)) f1454
                              have f1462 := k1458 _ _ (pd_ne f1455 f1452 (by simp)) f1455
                              have f1463 := k1458 _ _ (pd_ne f1456 f1452 (by simp)) f1456
                              refine lv_aload_n hx hb d_p15m16_232 rfl (lv_at hl 2 rfl) ?_
                              refine pd_get X w f1459 rfl 39 (by decide) mT_1178 rfl rfl d_p15m16_233 ?_
                              refine lv_iconst (v := nI 1) hx hb d_p15m16_236 (by decide) ?_
                              refine pd_jeq (tgt := 252) hx hb d_p15m16_237 (by decide) (by decide) (by decide) (fun q => absurd q (by decide)) (fun _ => ?_)
                              refine lv_aload_n hx hb d_p15m16_240 rfl (lv_at hl 2 rfl) ?_
                              refine lv_iload_n hx hb d_p15m16_241 rfl (lv_at hl 0 rfl) ?_
                              refine lv_iconst (v := nI 1) hx hb d_p15m16_242 (by decide) ?_
                              refine pd_iadd hx hb d_p15m16_243 ?_
                              refine lv_iload_n hx hb d_p15m16_244 rfl (lv_at hl 1 rfl) ?_
                              refine pd_cV (a := y) (As := [.int (nI (((gm_name cs (sA i0) (eA i0)) + 3) + 1)), .int (nI (eA i0))]) (rest := []) X w f1459 rfl (c_PolicyDeskModel_behindPart l G h1457 (ad := ad) (fv := fv) (iv := pd_fu (pd_fu (pd_fu (pd_fu iv 37 (nI 2)) 38 (nI (gm_name cs (sA i0) (eA i0)))) 39 (nI 2)) 40 (nI (((gm_name cs (sA i0) (eA i0)) + 3) + 1))) (tl := tl) (pd_MO.of (fv2 := fv) (iv2 := pd_fu (pd_fu (pd_fu (pd_fu iv 37 (nI 2)) 38 (nI (gm_name cs (sA i0) (eA i0)))) 39 (nI 2)) 40 (nI (((gm_name cs (sA i0) (eA i0)) + 3) + 1))) (tl2 := tl) (ts := [20]) hMO (pd_kx.tr (pd_kx.tr (pd_kx.tr (pd_kx.tr (pd_kx.tr (pd_kx.tr (pd_kx.tr (pd_kx.tr (pd_kq.kx (k2) hy0) (pd_kq.kx (k9) f3)) (pd_kq.kx (k1002) f10)) (pd_kq.kx (k1009) f1003)) (pd_kq.kx (k1405) f1010)) (pd_kq.kx (k1412) f1406)) (pd_kq.kx (k1419) f1413)) (pd_kq.kx (k1451) f1420)) (pd_kq.kx (k1458) f1452)) f1459 (fun j hj => Or.inr ⟨fun z => by first | (simp at z; done) | (simp at z; omega), rfl⟩)) hL (by omega) (by omega)) ok_PolicyDeskModel_behindPart ⟨mT_1315, sT_19⟩ mT_1313 ⟨by decide, by decide⟩ rfl hl.1 rfl (Nat.le_of_ble_eq_true rfl) d_p15m16_245 ⟨by decide, by decide⟩ (fun r1465 h1466 H locs hp1467 w => ?_)
                              refine W.widen (k := 0) (n := 0) (by decide) (by decide) ?_
                              obtain ⟨e1468, rfl⟩ := hp1467
                              have hpl := gm_part_le (cs := cs) (x := (gm_name cs (sA i0) (eA i0)) + 3 + 1) (to := eA i0) (by omega)
                              refine lv_iload_n hx hb d_p15m16_248 rfl (lv_at hl 1 rfl) ?_
                              refine pd_jne (tgt := 256) hx hb d_p15m16_249 (by decide) (by omega) (by omega) (fun q1469 => ?_) (fun q1469 => ?_)
                              · -- taken: 256
                                refine lv_iconst (v := nI 0) hx hb d_p15m16_256 (by decide) ?_
                                have hpt : gm_pt cs ((gm_name cs (sA i0) (eA i0)) + 3) (eA i0) = none := by unfold gm_pt; rw [if_neg (by omega), if_neg (by omega), if_neg (by omega), if_neg (by rw [← e1468]; omega)]
                                have hp : gm_pat cs (sA i0) (eA i0) = none := by unfold gm_pat; rw [hph]; simp only [hpt]
                                refine W.eq (g2 := F0 m 257 ls [.int (pd_b false)]) rfl ?_
                                exact pd_zret (v := false) X w ⟨by rw [hp]; rfl, pd_kx.tr (pd_kx.tr (pd_kx.tr (pd_kx.tr (pd_kx.tr (pd_kx.tr (pd_kx.tr (pd_kx.tr (pd_kq.kx (k2) hy0) (pd_kq.kx (k9) f3)) (pd_kq.kx (k1002) f10)) (pd_kq.kx (k1009) f1003)) (pd_kq.kx (k1405) f1010)) (pd_kq.kx (k1412) f1406)) (pd_kq.kx (k1419) f1413)) (pd_kq.kx (k1451) f1420)) (pd_kq.kx (k1458) f1452), (nI 2), (nI (gm_name cs (sA i0) (eA i0))), (nI 2), (nI (((gm_name cs (sA i0) (eA i0)) + 3) + 1)), (pd_MO.of (fv2 := fv) (iv2 := pd_fu (pd_fu (pd_fu (pd_fu iv 37 (nI 2)) 38 (nI (gm_name cs (sA i0) (eA i0)))) 39 (nI 2)) 40 (nI (((gm_name cs (sA i0) (eA i0)) + 3) + 1))) (tl2 := tl) (ts := [20]) hMO (pd_kx.tr (pd_kx.tr (pd_kx.tr (pd_kx.tr (pd_kx.tr (pd_kx.tr (pd_kx.tr (pd_kx.tr (pd_kq.kx (k2) hy0) (pd_kq.kx (k9) f3)) (pd_kq.kx (k1002) f10)) (pd_kq.kx (k1009) f1003)) (pd_kq.kx (k1405) f1010)) (pd_kq.kx (k1412) f1406)) (pd_kq.kx (k1419) f1413)) (pd_kq.kx (k1451) f1420)) (pd_kq.kx (k1458) f1452)) f1459 (fun j hj => Or.inr ⟨fun z => by first | (simp at z; done) | (simp at z; omega), rfl⟩)), fun t9 ht9 => by rw [hp] at ht9; cases ht9⟩ (by decide) (by decide) d_p15m16_257
                              · -- not taken: 252
                                refine lv_iconst (v := nI 1) hx hb d_p15m16_252 (by decide) ?_
                                refine lv_goto (tgt := 257) hx hb d_p15m16_253 (by decide) ?_
                                have hpt : gm_pt cs ((gm_name cs (sA i0) (eA i0)) + 3) (eA i0) = some (2, (gm_name cs (sA i0) (eA i0)) + 3 + 1) := by unfold gm_pt; rw [if_neg (by omega), if_neg (by omega), if_neg (by omega), if_pos (by rw [← e1468]; omega)]
                                have hp : gm_pat cs (sA i0) (eA i0) = some (2, gm_name cs (sA i0) (eA i0), 2, (gm_name cs (sA i0) (eA i0)) + 3 + 1) := by unfold gm_pat; rw [hph]; simp only [hpt]
                                refine W.eq (g2 := F0 m 257 ls [.int (pd_b true)]) rfl ?_
                                exact pd_zret (v := true) X w ⟨by rw [hp]; rfl, pd_kx.tr (pd_kx.tr (pd_kx.tr (pd_kx.tr (pd_kx.tr (pd_kx.tr (pd_kx.tr (pd_kx.tr (pd_kq.kx (k2) hy0) (pd_kq.kx (k9) f3)) (pd_kq.kx (k1002) f10)) (pd_kq.kx (k1009) f1003)) (pd_kq.kx (k1405) f1010)) (pd_kq.kx (k1412) f1406)) (pd_kq.kx (k1419) f1413)) (pd_kq.kx (k1451) f1420)) (pd_kq.kx (k1458) f1452), (nI 2), (nI (gm_name cs (sA i0) (eA i0))), (nI 2), (nI (((gm_name cs (sA i0) (eA i0)) + 3) + 1)), (pd_MO.of (fv2 := fv) (iv2 := pd_fu (pd_fu (pd_fu (pd_fu iv 37 (nI 2)) 38 (nI (gm_name cs (sA i0) (eA i0)))) 39 (nI 2)) 40 (nI (((gm_name cs (sA i0) (eA i0)) + 3) + 1))) (tl2 := tl) (ts := [20]) hMO (pd_kx.tr (pd_kx.tr (pd_kx.tr (pd_kx.tr (pd_kx.tr (pd_kx.tr (pd_kx.tr (pd_kx.tr (pd_kq.kx (k2) hy0) (pd_kq.kx (k9) f3)) (pd_kq.kx (k1002) f10)) (pd_kq.kx (k1009) f1003)) (pd_kq.kx (k1405) f1010)) (pd_kq.kx (k1412) f1406)) (pd_kq.kx (k1419) f1413)) (pd_kq.kx (k1451) f1420)) (pd_kq.kx (k1458) f1452)) f1459 (fun j hj => Or.inr ⟨fun z => by first | (simp at z; done) | (simp at z; omega), rfl⟩)), fun t9 ht9 => by rw [hp] at ht9; cases ht9; exact ⟨rfl, rfl, rfl, rfl⟩⟩ (by decide) (by decide) d_p15m16_257
                            · -- not taken: 217
                              refine lv_iconst (v := nI 1) hx hb d_p15m16_217 (by decide) ?_
                              refine lv_goto (tgt := 222) hx hb d_p15m16_218 (by decide) ?_
                              refine pd_put (ty := .int) X w f1420 hz_y rfl 39 (by decide) mT_1178 rfl rfl (by decide +kernel) rfl rfl (Nat.le_of_ble_eq_true rfl) d_p15m16_222 (fun H locs w => ?_)
                              have w : pd_w G s H locs (pd_up h1418 y (20, .inr (10, [.ref (ad 0), .ref (ad 1), .ref (ad 2), .int (iv 3), .int (iv 4), .int (iv 5), .ref (ad 6), .ref (ad 7), .ref (ad 8), .ref (ad 9), .ref (ad 10), .ref (ad 11), .int (iv 12), .ref (ad 13), .ref (ad 14), .ref (ad 15), .ref (ad 16), .ref (ad 17), .ref (ad 18), .ref (ad 19), .int (iv 20), .ref (ad 21), .ref (ad 22), .ref (ad 23), .ref (ad 24), .ref (ad 25), .ref (ad 26), .ref (ad 27), .ref (ad 28), .int (iv 29), .ref (ad 30), .ref (ad 31), .int (iv 32), .int (iv 33), .int (iv 34), .int (iv 35), .long tl, .int (nI 2), .int (nI (gm_name cs (sA i0) (eA i0))), .int (nI 1), .int (nI (eA i0)), .ref (ad 41), .ref (ad 42), .int (iv 43)]))) := w
                              obtain ⟨h1470, u1473⟩ : ∃ z, z = pd_up h1418 y (20, .inr (10, [.ref (ad 0), .ref (ad 1), .ref (ad 2), .int (iv 3), .int (iv 4), .int (iv 5), .ref (ad 6), .ref (ad 7), .ref (ad 8), .ref (ad 9), .ref (ad 10), .ref (ad 11), .int (iv 12), .ref (ad 13), .ref (ad 14), .ref (ad 15), .ref (ad 16), .ref (ad 17), .ref (ad 18), .ref (ad 19), .int (iv 20), .ref (ad 21), .ref (ad 22), .ref (ad 23), .ref (ad 24), .ref (ad 25), .ref (ad 26), .ref (ad 27), .ref (ad 28), .int (iv 29), .ref (ad 30), .ref (ad 31), .int (iv 32), .int (iv 33), .int (iv 34), .int (iv 35), .long tl, .int (nI 2), .int (nI (gm_name cs (sA i0) (eA i0))), .int (nI 1), .int (nI (eA i0)), .ref (ad 41), .ref (ad 42), .int (iv 43)])) := ⟨_, rfl⟩
                              rw [← u1473] at w
                              have k1471 : pd_kq y h1418 h1470 := by rw [u1473]; exact pd_up_kq
                              have f1472 : h1470 y = some (20, .inr (10, [.ref (ad 0), .ref (ad 1), .ref (ad 2), .int (iv 3), .int (iv 4), .int (iv 5), .ref (ad 6), .ref (ad 7), .ref (ad 8), .ref (ad 9), .ref (ad 10), .ref (ad 11), .int (iv 12), .ref (ad 13), .ref (ad 14), .ref (ad 15), .ref (ad 16), .ref (ad 17), .ref (ad 18), .ref (ad 19), .int (iv 20), .ref (ad 21), .ref (ad 22), .ref (ad 23), .ref (ad 24), .ref (ad 25), .ref (ad 26), .ref (ad 27), .ref (ad 28), .int (iv 29), .ref (ad 30), .ref (ad 31), .int (iv 32), .int (iv 33), .int (iv 34), .int (iv 35), .long tl, .int (nI 2), .int (nI (gm_name cs (sA i0) (eA i0))), .int (nI 1), .int (nI (eA i0)), .ref (ad 41), .ref (ad 42), .int (iv 43)])) := by rw [u1473]; exact pd_up_s _ _ _
                              have f1474 := k1471 _ _ (pd_ne f1422 f1420 (by simp)) f1422
                              have f1475 := k1471 _ _ (pd_ne f1423 f1420 (by simp)) f1423
                              have f1476 := k1471 _ _ (pd_ne f1424 f1420 (by simp)) f1424
                              refine lv_aload_n hx hb d_p15m16_225 rfl (lv_at hl 2 rfl) ?_
                              refine lv_iload_n hx hb d_p15m16_226 rfl (lv_at hl 0 rfl) ?_
                              refine lv_iconst (v := nI 1) hx hb d_p15m16_227 (by decide) ?_
                              refine pd_iadd hx hb d_p15m16_228 ?_
                              refine pd_put (ty := .int) X w f1472 hz_y rfl 40 (by decide) mT_1179 rfl rfl (by decide +kernel) rfl rfl (Nat.le_of_ble_eq_true rfl) d_p15m16_229 (fun H locs w => ?_)
                              have w : pd_w G s H locs (pd_up h1470 y (20, .inr (10, [.ref (ad 0), .ref (ad 1), .ref (ad 2), .int (iv 3), .int (iv 4), .int (iv 5), .ref (ad 6), .ref (ad 7), .ref (ad 8), .ref (ad 9), .ref (ad 10), .ref (ad 11), .int (iv 12), .ref (ad 13), .ref (ad 14), .ref (ad 15), .ref (ad 16), .ref (ad 17), .ref (ad 18), .ref (ad 19), .int (iv 20), .ref (ad 21), .ref (ad 22), .ref (ad 23), .ref (ad 24), .ref (ad 25), .ref (ad 26), .ref (ad 27), .ref (ad 28), .int (iv 29), .ref (ad 30), .ref (ad 31), .int (iv 32), .int (iv 33), .int (iv 34), .int (iv 35), .long tl, .int (nI 2), .int (nI (gm_name cs (sA i0) (eA i0))), .int (nI 1), .int (nI (((gm_name cs (sA i0) (eA i0)) + 3) + 1)), .ref (ad 41), .ref (ad 42), .int (iv 43)]))) := w
                              obtain ⟨h1477, u1480⟩ : ∃ z, z = pd_up h1470 y (20, .inr (10, [.ref (ad 0), .ref (ad 1), .ref (ad 2), .int (iv 3), .int (iv 4), .int (iv 5), .ref (ad 6), .ref (ad 7), .ref (ad 8), .ref (ad 9), .ref (ad 10), .ref (ad 11), .int (iv 12), .ref (ad 13), .ref (ad 14), .ref (ad 15), .ref (ad 16), .ref (ad 17), .ref (ad 18), .ref (ad 19), .int (iv 20), .ref (ad 21), .ref (ad 22), .ref (ad 23), .ref (ad 24), .ref (ad 25), .ref (ad 26), .ref (ad 27), .ref (ad 28), .int (iv 29), .ref (ad 30), .ref (ad 31), .int (iv 32), .int (iv 33), .int (iv 34), .int (iv 35), .long tl, .int (nI 2), .int (nI (gm_name cs (sA i0) (eA i0))), .int (nI 1), .int (nI (((gm_name cs (sA i0) (eA i0)) + 3) + 1)), .ref (ad 41), .ref (ad 42), .int (iv 43)])) := ⟨_, rfl⟩
                              rw [← u1480] at w
                              have k1478 : pd_kq y h1470 h1477 := by rw [u1480]; exact pd_up_kq
                              have f1479 : h1477 y = some (20, .inr (10, [.ref (ad 0), .ref (ad 1), .ref (ad 2), .int (iv 3), .int (iv 4), .int (iv 5), .ref (ad 6), .ref (ad 7), .ref (ad 8), .ref (ad 9), .ref (ad 10), .ref (ad 11), .int (iv 12), .ref (ad 13), .ref (ad 14), .ref (ad 15), .ref (ad 16), .ref (ad 17), .ref (ad 18), .ref (ad 19), .int (iv 20), .ref (ad 21), .ref (ad 22), .ref (ad 23), .ref (ad 24), .ref (ad 25), .ref (ad 26), .ref (ad 27), .ref (ad 28), .int (iv 29), .ref (ad 30), .ref (ad 31), .int (iv 32), .int (iv 33), .int (iv 34), .int (iv 35), .long tl, .int (nI 2), .int (nI (gm_name cs (sA i0) (eA i0))), .int (nI 1), .int (nI (((gm_name cs (sA i0) (eA i0)) + 3) + 1)), .ref (ad 41), .ref (ad 42), .int (iv 43)])) := by rw [u1480]; exact pd_up_s _ _ _
                              have f1481 := k1478 _ _ (pd_ne f1474 f1472 (by simp)) f1474
                              have f1482 := k1478 _ _ (pd_ne f1475 f1472 (by simp)) f1475
                              have f1483 := k1478 _ _ (pd_ne f1476 f1472 (by simp)) f1476
                              refine lv_aload_n hx hb d_p15m16_232 rfl (lv_at hl 2 rfl) ?_
                              refine pd_get X w f1479 rfl 39 (by decide) mT_1178 rfl rfl d_p15m16_233 ?_
                              refine lv_iconst (v := nI 1) hx hb d_p15m16_236 (by decide) ?_
                              refine pd_jeq (tgt := 252) hx hb d_p15m16_237 (by decide) (by decide) (by decide) (fun _ => ?_) (fun q => absurd q (by decide))
                              refine lv_iconst (v := nI 1) hx hb d_p15m16_252 (by decide) ?_
                              refine lv_goto (tgt := 257) hx hb d_p15m16_253 (by decide) ?_
                              have hpt : gm_pt cs ((gm_name cs (sA i0) (eA i0)) + 3) (eA i0) = some (1, (gm_name cs (sA i0) (eA i0)) + 3 + 1) := by unfold gm_pt; rw [if_neg (by omega), if_neg (by omega), if_pos (by omega)]
                              have hp : gm_pat cs (sA i0) (eA i0) = some (2, gm_name cs (sA i0) (eA i0), 1, (gm_name cs (sA i0) (eA i0)) + 3 + 1) := by unfold gm_pat; rw [hph]; simp only [hpt]
                              refine W.eq (g2 := F0 m 257 ls [.int (pd_b true)]) rfl ?_
                              exact pd_zret (v := true) X w ⟨by rw [hp]; rfl, pd_kx.tr (pd_kx.tr (pd_kx.tr (pd_kx.tr (pd_kx.tr (pd_kx.tr (pd_kx.tr (pd_kx.tr (pd_kq.kx (k2) hy0) (pd_kq.kx (k9) f3)) (pd_kq.kx (k1002) f10)) (pd_kq.kx (k1009) f1003)) (pd_kq.kx (k1405) f1010)) (pd_kq.kx (k1412) f1406)) (pd_kq.kx (k1419) f1413)) (pd_kq.kx (k1471) f1420)) (pd_kq.kx (k1478) f1472), (nI 2), (nI (gm_name cs (sA i0) (eA i0))), (nI 1), (nI (((gm_name cs (sA i0) (eA i0)) + 3) + 1)), (pd_MO.of (fv2 := fv) (iv2 := pd_fu (pd_fu (pd_fu (pd_fu iv 37 (nI 2)) 38 (nI (gm_name cs (sA i0) (eA i0)))) 39 (nI 1)) 40 (nI (((gm_name cs (sA i0) (eA i0)) + 3) + 1))) (tl2 := tl) (ts := [20]) hMO (pd_kx.tr (pd_kx.tr (pd_kx.tr (pd_kx.tr (pd_kx.tr (pd_kx.tr (pd_kx.tr (pd_kx.tr (pd_kq.kx (k2) hy0) (pd_kq.kx (k9) f3)) (pd_kq.kx (k1002) f10)) (pd_kq.kx (k1009) f1003)) (pd_kq.kx (k1405) f1010)) (pd_kq.kx (k1412) f1406)) (pd_kq.kx (k1419) f1413)) (pd_kq.kx (k1471) f1420)) (pd_kq.kx (k1478) f1472)) f1479 (fun j hj => Or.inr ⟨fun z => by first | (simp at z; done) | (simp at z; omega), rfl⟩)), fun t9 ht9 => by rw [hp] at ht9; cases ht9; exact ⟨rfl, rfl, rfl, rfl⟩⟩ (by decide) (by decide) d_p15m16_257
                        · -- not taken: 194
                          refine lv_iconst (v := nI 0) hx hb d_p15m16_194 (by decide) ?_
                          have hpt : gm_pt cs ((gm_name cs (sA i0) (eA i0)) + 3) (eA i0) = none := by unfold gm_pt; rw [if_neg (by omega), if_pos (by omega)]
                          have hp : gm_pat cs (sA i0) (eA i0) = none := by unfold gm_pat; rw [hph]; simp only [hpt]
                          refine W.eq (g2 := F0 m 195 ls [.int (pd_b false)]) rfl ?_
                          exact pd_zret (v := false) X w ⟨by rw [hp]; rfl, pd_kx.tr (pd_kx.tr (pd_kx.tr (pd_kx.tr (pd_kx.tr (pd_kx.tr (pd_kq.kx (k2) hy0) (pd_kq.kx (k9) f3)) (pd_kq.kx (k1002) f10)) (pd_kq.kx (k1009) f1003)) (pd_kq.kx (k1405) f1010)) (pd_kq.kx (k1412) f1406)) (pd_kq.kx (k1419) f1413), (nI 2), (nI (gm_name cs (sA i0) (eA i0))), (nI 0), (nI (eA i0)), (pd_MO.of (fv2 := fv) (iv2 := pd_fu (pd_fu (pd_fu (pd_fu iv 37 (nI 2)) 38 (nI (gm_name cs (sA i0) (eA i0)))) 39 (nI 0)) 40 (nI (eA i0))) (tl2 := tl) (ts := [20]) hMO (pd_kx.tr (pd_kx.tr (pd_kx.tr (pd_kx.tr (pd_kx.tr (pd_kx.tr (pd_kq.kx (k2) hy0) (pd_kq.kx (k9) f3)) (pd_kq.kx (k1002) f10)) (pd_kq.kx (k1009) f1003)) (pd_kq.kx (k1405) f1010)) (pd_kq.kx (k1412) f1406)) (pd_kq.kx (k1419) f1413)) f1420 (fun j hj => Or.inr ⟨fun z => by first | (simp at z; done) | (simp at z; omega), rfl⟩)), fun t9 ht9 => by rw [hp] at ht9; cases ht9⟩ (by decide) (by decide) d_p15m16_195
                    · -- not taken: 174
                      refine lv_iconst (v := nI 1) hx hb d_p15m16_174 (by decide) ?_
                      have hpt : gm_pt cs ((gm_name cs (sA i0) (eA i0)) + 3) (eA i0) = some (0, eA i0) := by unfold gm_pt; rw [if_pos (by omega)]
                      have hp : gm_pat cs (sA i0) (eA i0) = some (2, gm_name cs (sA i0) (eA i0), 0, eA i0) := by unfold gm_pat; rw [hph]; simp only [hpt]
                      refine W.eq (g2 := F0 m 175 ls [.int (pd_b true)]) rfl ?_
                      exact pd_zret (v := true) X w ⟨by rw [hp]; rfl, pd_kx.tr (pd_kx.tr (pd_kx.tr (pd_kx.tr (pd_kx.tr (pd_kx.tr (pd_kq.kx (k2) hy0) (pd_kq.kx (k9) f3)) (pd_kq.kx (k1002) f10)) (pd_kq.kx (k1009) f1003)) (pd_kq.kx (k1405) f1010)) (pd_kq.kx (k1412) f1406)) (pd_kq.kx (k1419) f1413), (nI 2), (nI (gm_name cs (sA i0) (eA i0))), (nI 0), (nI (eA i0)), (pd_MO.of (fv2 := fv) (iv2 := pd_fu (pd_fu (pd_fu (pd_fu iv 37 (nI 2)) 38 (nI (gm_name cs (sA i0) (eA i0)))) 39 (nI 0)) 40 (nI (eA i0))) (tl2 := tl) (ts := [20]) hMO (pd_kx.tr (pd_kx.tr (pd_kx.tr (pd_kx.tr (pd_kx.tr (pd_kx.tr (pd_kq.kx (k2) hy0) (pd_kq.kx (k9) f3)) (pd_kq.kx (k1002) f10)) (pd_kq.kx (k1009) f1003)) (pd_kq.kx (k1405) f1010)) (pd_kq.kx (k1412) f1406)) (pd_kq.kx (k1419) f1413)) f1420 (fun j hj => Or.inr ⟨fun z => by first | (simp at z; done) | (simp at z; omega), rfl⟩)), fun t9 ht9 => by rw [hp] at ht9; cases ht9; exact ⟨rfl, rfl, rfl, rfl⟩⟩ (by decide) (by decide) d_p15m16_175
        · -- not taken: 78
          refine lv_iconst (v := nI 0) hx hb d_p15m16_78 (by decide) ?_
          have hp : gm_pat cs (sA i0) (eA i0) = none := by unfold gm_pat; rw [show gm_ph cs (sA i0) (eA i0) = none by unfold gm_ph; rw [if_neg (by omega), if_pos (by omega)]]
          refine W.eq (g2 := F0 m 79 ls [.int (pd_b false)]) rfl ?_
          exact pd_zret (v := false) X w ⟨by rw [hp]; rfl, pd_kx.tr (pd_kq.kx (k2) hy0) (pd_kq.kx (k9) f3), (nI 3), (nI (sA i0)), (iv 39), (iv 40), (pd_MO.of (fv2 := fv) (iv2 := pd_fu (pd_fu iv 37 (nI 3)) 38 (nI (sA i0))) (tl2 := tl) (ts := [20]) hMO (pd_kx.tr (pd_kq.kx (k2) hy0) (pd_kq.kx (k9) f3)) f10 (fun j hj => Or.inr ⟨fun z => by first | (simp at z; done) | (simp at z; omega), rfl⟩)), fun t9 ht9 => by rw [hp] at ht9; cases ht9⟩ (by decide) (by decide) d_p15m16_79
      · -- not taken: 55
        refine pd_iinc (k := 1) (d := 2) (lv' := [(2, .int (nI (sA i0 + 2))), (3, .int (nI (eA i0))), (0, .ref y), (1, .int (nI i0))]) hx hb d_p15m16_55 (by decide) hl rfl (by decide) rfl (fun ls hl => ?_)
        refine lv_goto (tgt := 159) hx hb d_p15m16_58 (by decide) ?_
        have hph : gm_ph cs (sA i0) (eA i0) = some (3, sA i0, sA i0 + 2) := by unfold gm_ph; rw [if_pos (by omega)]
        refine lv_aload_n hx hb d_p15m16_159 rfl (lv_at hl 2 rfl) ?_
        refine lv_iconst (v := nI 0) hx hb d_p15m16_160 (by decide) ?_
        refine pd_put (ty := .int) X w f10 hz_y rfl 39 (by decide) mT_1178 rfl rfl (by decide +kernel) rfl rfl (Nat.le_of_ble_eq_true rfl) d_p15m16_161 (fun H locs w => ?_)
        have w : pd_w G s H locs (pd_up h8 y (20, .inr (10, [.ref (ad 0), .ref (ad 1), .ref (ad 2), .int (iv 3), .int (iv 4), .int (iv 5), .ref (ad 6), .ref (ad 7), .ref (ad 8), .ref (ad 9), .ref (ad 10), .ref (ad 11), .int (iv 12), .ref (ad 13), .ref (ad 14), .ref (ad 15), .ref (ad 16), .ref (ad 17), .ref (ad 18), .ref (ad 19), .int (iv 20), .ref (ad 21), .ref (ad 22), .ref (ad 23), .ref (ad 24), .ref (ad 25), .ref (ad 26), .ref (ad 27), .ref (ad 28), .int (iv 29), .ref (ad 30), .ref (ad 31), .int (iv 32), .int (iv 33), .int (iv 34), .int (iv 35), .long tl, .int (nI 3), .int (nI (sA i0)), .int (nI 0), .int (iv 40), .ref (ad 41), .ref (ad 42), .int (iv 43)]))) := w
        obtain ⟨h1485, u1488⟩ : ∃ z, z = pd_up h8 y (20, .inr (10, [.ref (ad 0), .ref (ad 1), .ref (ad 2), .int (iv 3), .int (iv 4), .int (iv 5), .ref (ad 6), .ref (ad 7), .ref (ad 8), .ref (ad 9), .ref (ad 10), .ref (ad 11), .int (iv 12), .ref (ad 13), .ref (ad 14), .ref (ad 15), .ref (ad 16), .ref (ad 17), .ref (ad 18), .ref (ad 19), .int (iv 20), .ref (ad 21), .ref (ad 22), .ref (ad 23), .ref (ad 24), .ref (ad 25), .ref (ad 26), .ref (ad 27), .ref (ad 28), .int (iv 29), .ref (ad 30), .ref (ad 31), .int (iv 32), .int (iv 33), .int (iv 34), .int (iv 35), .long tl, .int (nI 3), .int (nI (sA i0)), .int (nI 0), .int (iv 40), .ref (ad 41), .ref (ad 42), .int (iv 43)])) := ⟨_, rfl⟩
        rw [← u1488] at w
        have k1486 : pd_kq y h8 h1485 := by rw [u1488]; exact pd_up_kq
        have f1487 : h1485 y = some (20, .inr (10, [.ref (ad 0), .ref (ad 1), .ref (ad 2), .int (iv 3), .int (iv 4), .int (iv 5), .ref (ad 6), .ref (ad 7), .ref (ad 8), .ref (ad 9), .ref (ad 10), .ref (ad 11), .int (iv 12), .ref (ad 13), .ref (ad 14), .ref (ad 15), .ref (ad 16), .ref (ad 17), .ref (ad 18), .ref (ad 19), .int (iv 20), .ref (ad 21), .ref (ad 22), .ref (ad 23), .ref (ad 24), .ref (ad 25), .ref (ad 26), .ref (ad 27), .ref (ad 28), .int (iv 29), .ref (ad 30), .ref (ad 31), .int (iv 32), .int (iv 33), .int (iv 34), .int (iv 35), .long tl, .int (nI 3), .int (nI (sA i0)), .int (nI 0), .int (iv 40), .ref (ad 41), .ref (ad 42), .int (iv 43)])) := by rw [u1488]; exact pd_up_s _ _ _
        have f1489 := k1486 _ _ (pd_ne f12 f10 (by simp)) f12
        have f1490 := k1486 _ _ (pd_ne f13 f10 (by simp)) f13
        have f1491 := k1486 _ _ (pd_ne f14 f10 (by simp)) f14
        refine lv_aload_n hx hb d_p15m16_164 rfl (lv_at hl 2 rfl) ?_
        refine lv_iload_n hx hb d_p15m16_165 rfl (lv_at hl 1 rfl) ?_
        refine pd_put (ty := .int) X w f1487 hz_y rfl 40 (by decide) mT_1179 rfl rfl (by decide +kernel) rfl rfl (Nat.le_of_ble_eq_true rfl) d_p15m16_166 (fun H locs w => ?_)
        have w : pd_w G s H locs (pd_up h1485 y (20, .inr (10, [.ref (ad 0), .ref (ad 1), .ref (ad 2), .int (iv 3), .int (iv 4), .int (iv 5), .ref (ad 6), .ref (ad 7), .ref (ad 8), .ref (ad 9), .ref (ad 10), .ref (ad 11), .int (iv 12), .ref (ad 13), .ref (ad 14), .ref (ad 15), .ref (ad 16), .ref (ad 17), .ref (ad 18), .ref (ad 19), .int (iv 20), .ref (ad 21), .ref (ad 22), .ref (ad 23), .ref (ad 24), .ref (ad 25), .ref (ad 26), .ref (ad 27), .ref (ad 28), .int (iv 29), .ref (ad 30), .ref (ad 31), .int (iv 32), .int (iv 33), .int (iv 34), .int (iv 35), .long tl, .int (nI 3), .int (nI (sA i0)), .int (nI 0), .int (nI (eA i0)), .ref (ad 41), .ref (ad 42), .int (iv 43)]))) := w
        obtain ⟨h1492, u1495⟩ : ∃ z, z = pd_up h1485 y (20, .inr (10, [.ref (ad 0), .ref (ad 1), .ref (ad 2), .int (iv 3), .int (iv 4), .int (iv 5), .ref (ad 6), .ref (ad 7), .ref (ad 8), .ref (ad 9), .ref (ad 10), .ref (ad 11), .int (iv 12), .ref (ad 13), .ref (ad 14), .ref (ad 15), .ref (ad 16), .ref (ad 17), .ref (ad 18), .ref (ad 19), .int (iv 20), .ref (ad 21), .ref (ad 22), .ref (ad 23), .ref (ad 24), .ref (ad 25), .ref (ad 26), .ref (ad 27), .ref (ad 28), .int (iv 29), .ref (ad 30), .ref (ad 31), .int (iv 32), .int (iv 33), .int (iv 34), .int (iv 35), .long tl, .int (nI 3), .int (nI (sA i0)), .int (nI 0), .int (nI (eA i0)), .ref (ad 41), .ref (ad 42), .int (iv 43)])) := ⟨_, rfl⟩
        rw [← u1495] at w
        have k1493 : pd_kq y h1485 h1492 := by rw [u1495]; exact pd_up_kq
        have f1494 : h1492 y = some (20, .inr (10, [.ref (ad 0), .ref (ad 1), .ref (ad 2), .int (iv 3), .int (iv 4), .int (iv 5), .ref (ad 6), .ref (ad 7), .ref (ad 8), .ref (ad 9), .ref (ad 10), .ref (ad 11), .int (iv 12), .ref (ad 13), .ref (ad 14), .ref (ad 15), .ref (ad 16), .ref (ad 17), .ref (ad 18), .ref (ad 19), .int (iv 20), .ref (ad 21), .ref (ad 22), .ref (ad 23), .ref (ad 24), .ref (ad 25), .ref (ad 26), .ref (ad 27), .ref (ad 28), .int (iv 29), .ref (ad 30), .ref (ad 31), .int (iv 32), .int (iv 33), .int (iv 34), .int (iv 35), .long tl, .int (nI 3), .int (nI (sA i0)), .int (nI 0), .int (nI (eA i0)), .ref (ad 41), .ref (ad 42), .int (iv 43)])) := by rw [u1495]; exact pd_up_s _ _ _
        have f1496 := k1493 _ _ (pd_ne f1489 f1487 (by simp)) f1489
        have f1497 := k1493 _ _ (pd_ne f1490 f1487 (by simp)) f1490
        have f1498 := k1493 _ _ (pd_ne f1491 f1487 (by simp)) f1491
        refine lv_iload_n hx hb d_p15m16_169 rfl (lv_at hl 0 rfl) ?_
        refine lv_iload_n hx hb d_p15m16_170 rfl (lv_at hl 1 rfl) ?_
        refine pd_jne (tgt := 176) hx hb d_p15m16_171 (by decide) (by omega) (by omega) (fun q1499 => ?_) (fun q1499 => ?_)
        · -- taken: 176
          refine lv_aload_n hx hb d_p15m16_176 rfl (lv_at hl 2 rfl) ?_
          refine pd_get X w f1494 rfl 0 (by decide) mT_1139 rfl rfl d_p15m16_177 ?_
          refine lv_iload_n hx hb d_p15m16_180 rfl (lv_at hl 0 rfl) ?_
          refine pd_iald X w f1496 (by omega) (by omega) d_p15m16_181 ?_
          refine pd_top (v' := .int (nI (cs.getD (sA i0 + 2) 0))) (congrArg Value.int (hln _ (by omega))) ?_
          have := tx_lt hlc (sA i0 + 2)
          refine lv_bipush (v := nI 46) hx hb d_p15m16_182 (by decide) ?_
          refine pd_jne (tgt := 194) hx hb d_p15m16_184 (by decide) (by omega) (by omega) (fun q1500 => ?_) (fun q1500 => ?_)
          · -- taken: 194
            refine lv_iconst (v := nI 0) hx hb d_p15m16_194 (by decide) ?_
            have hpt : gm_pt cs (sA i0 + 2) (eA i0) = none := by unfold gm_pt; rw [if_neg (by omega), if_pos (by omega)]
            have hp : gm_pat cs (sA i0) (eA i0) = none := by unfold gm_pat; rw [hph]; simp only [hpt]
            refine W.eq (g2 := F0 m 195 ls [.int (pd_b false)]) rfl ?_
            exact pd_zret (v := false) X w ⟨by rw [hp]; rfl, pd_kx.tr (pd_kx.tr (pd_kx.tr (pd_kq.kx (k2) hy0) (pd_kq.kx (k9) f3)) (pd_kq.kx (k1486) f10)) (pd_kq.kx (k1493) f1487), (nI 3), (nI (sA i0)), (nI 0), (nI (eA i0)), (pd_MO.of (fv2 := fv) (iv2 := pd_fu (pd_fu (pd_fu (pd_fu iv 37 (nI 3)) 38 (nI (sA i0))) 39 (nI 0)) 40 (nI (eA i0))) (tl2 := tl) (ts := [20]) hMO (pd_kx.tr (pd_kx.tr (pd_kx.tr (pd_kq.kx (k2) hy0) (pd_kq.kx (k9) f3)) (pd_kq.kx (k1486) f10)) (pd_kq.kx (k1493) f1487)) f1494 (fun j hj => Or.inr ⟨fun z => by first | (simp at z; done) | (simp at z; omega), rfl⟩)), fun t9 ht9 => by rw [hp] at ht9; cases ht9⟩ (by decide) (by decide) d_p15m16_195
          · -- not taken: 187
            refine lv_iload_n hx hb d_p15m16_187 rfl (lv_at hl 0 rfl) ?_
            refine lv_iconst (v := nI 1) hx hb d_p15m16_188 (by decide) ?_
            refine pd_iadd hx hb d_p15m16_189 ?_
            refine lv_iload_n hx hb d_p15m16_190 rfl (lv_at hl 1 rfl) ?_
            refine pd_jne (tgt := 196) hx hb d_p15m16_191 (by decide) (by omega) (by omega) (fun q1501 => ?_) (fun q1501 => ?_)
            · -- taken: 196
              refine lv_aload_n hx hb d_p15m16_196 rfl (lv_at hl 2 rfl) ?_
              refine lv_aload_n hx hb d_p15m16_197 rfl (lv_at hl 2 rfl) ?_
              refine pd_get X w f1494 rfl 0 (by decide) mT_1139 rfl rfl d_p15m16_198 ?_
              refine lv_iload_n hx hb d_p15m16_201 rfl (lv_at hl 0 rfl) ?_
              refine lv_iconst (v := nI 1) hx hb d_p15m16_202 (by decide) ?_
              refine pd_iadd hx hb d_p15m16_203 ?_
              refine pd_iald X w f1496 (by omega) (by omega) d_p15m16_204 ?_
              refine pd_top (v' := .int (nI (cs.getD ((sA i0 + 2) + 1) 0))) (congrArg Value.int (hln _ (by omega))) ?_
              have := tx_lt hlc ((sA i0 + 2) + 1)
              refine lv_bipush (v := nI 42) hx hb d_p15m16_205 (by decide) ?_
              refine pd_jne (tgt := 221) hx hb d_p15m16_207 (by decide) (by omega) (by omega) (fun q1502 => ?_) (fun q1502 => ?_)
              · -- taken: 221
                refine lv_iconst (v := nI 2) hx hb d_p15m16_221 (by decide) ?_
                refine pd_put (ty := .int) X w f1494 hz_y rfl 39 (by decide) mT_1178 rfl rfl (by decide +kernel) rfl rfl (Nat.le_of_ble_eq_true rfl) d_p15m16_222 (fun H locs w => ?_)
                have w : pd_w G s H locs (pd_up h1492 y (20, .inr (10, [.ref (ad 0), .ref (ad 1), .ref (ad 2), .int (iv 3), .int (iv 4), .int (iv 5), .ref (ad 6), .ref (ad 7), .ref (ad 8), .ref (ad 9), .ref (ad 10), .ref (ad 11), .int (iv 12), .ref (ad 13), .ref (ad 14), .ref (ad 15), .ref (ad 16), .ref (ad 17), .ref (ad 18), .ref (ad 19), .int (iv 20), .ref (ad 21), .ref (ad 22), .ref (ad 23), .ref (ad 24), .ref (ad 25), .ref (ad 26), .ref (ad 27), .ref (ad 28), .int (iv 29), .ref (ad 30), .ref (ad 31), .int (iv 32), .int (iv 33), .int (iv 34), .int (iv 35), .long tl, .int (nI 3), .int (nI (sA i0)), .int (nI 2), .int (nI (eA i0)), .ref (ad 41), .ref (ad 42), .int (iv 43)]))) := w
                obtain ⟨h1503, u1506⟩ : ∃ z, z = pd_up h1492 y (20, .inr (10, [.ref (ad 0), .ref (ad 1), .ref (ad 2), .int (iv 3), .int (iv 4), .int (iv 5), .ref (ad 6), .ref (ad 7), .ref (ad 8), .ref (ad 9), .ref (ad 10), .ref (ad 11), .int (iv 12), .ref (ad 13), .ref (ad 14), .ref (ad 15), .ref (ad 16), .ref (ad 17), .ref (ad 18), .ref (ad 19), .int (iv 20), .ref (ad 21), .ref (ad 22), .ref (ad 23), .ref (ad 24), .ref (ad 25), .ref (ad 26), .ref (ad 27), .ref (ad 28), .int (iv 29), .ref (ad 30), .ref (ad 31), .int (iv 32), .int (iv 33), .int (iv 34), .int (iv 35), .long tl, .int (nI 3), .int (nI (sA i0)), .int (nI 2), .int (nI (eA i0)), .ref (ad 41), .ref (ad 42), .int (iv 43)])) := ⟨_, rfl⟩
                rw [← u1506] at w
                have k1504 : pd_kq y h1492 h1503 := by rw [u1506]; exact pd_up_kq
                have f1505 : h1503 y = some (20, .inr (10, [.ref (ad 0), .ref (ad 1), .ref (ad 2), .int (iv 3), .int (iv 4), .int (iv 5), .ref (ad 6), .ref (ad 7), .ref (ad 8), .ref (ad 9), .ref (ad 10), .ref (ad 11), .int (iv 12), .ref (ad 13), .ref (ad 14), .ref (ad 15), .ref (ad 16), .ref (ad 17), .ref (ad 18), .ref (ad 19), .int (iv 20), .ref (ad 21), .ref (ad 22), .ref (ad 23), .ref (ad 24), .ref (ad 25), .ref (ad 26), .ref (ad 27), .ref (ad 28), .int (iv 29), .ref (ad 30), .ref (ad 31), .int (iv 32), .int (iv 33), .int (iv 34), .int (iv 35), .long tl, .int (nI 3), .int (nI (sA i0)), .int (nI 2), .int (nI (eA i0)), .ref (ad 41), .ref (ad 42), .int (iv 43)])) := by rw [u1506]; exact pd_up_s _ _ _
                have f1507 := k1504 _ _ (pd_ne f1496 f1494 (by simp)) f1496
                have f1508 := k1504 _ _ (pd_ne f1497 f1494 (by simp)) f1497
                have f1509 := k1504 _ _ (pd_ne f1498 f1494 (by simp)) f1498
                refine lv_aload_n hx hb d_p15m16_225 rfl (lv_at hl 2 rfl) ?_
                refine lv_iload_n hx hb d_p15m16_226 rfl (lv_at hl 0 rfl) ?_
                refine lv_iconst (v := nI 1) hx hb d_p15m16_227 (by decide) ?_
                refine pd_iadd hx hb d_p15m16_228 ?_
                refine pd_put (ty := .int) X w f1505 hz_y rfl 40 (by decide) mT_1179 rfl rfl (by decide +kernel) rfl rfl (Nat.le_of_ble_eq_true rfl) d_p15m16_229 (fun H locs w => ?_)
                have w : pd_w G s H locs (pd_up h1503 y (20, .inr (10, [.ref (ad 0), .ref (ad 1), .ref (ad 2), .int (iv 3), .int (iv 4), .int (iv 5), .ref (ad 6), .ref (ad 7), .ref (ad 8), .ref (ad 9), .ref (ad 10), .ref (ad 11), .int (iv 12), .ref (ad 13), .ref (ad 14), .ref (ad 15), .ref (ad 16), .ref (ad 17), .ref (ad 18), .ref (ad 19), .int (iv 20), .ref (ad 21), .ref (ad 22), .ref (ad 23), .ref (ad 24), .ref (ad 25), .ref (ad 26), .ref (ad 27), .ref (ad 28), .int (iv 29), .ref (ad 30), .ref (ad 31), .int (iv 32), .int (iv 33), .int (iv 34), .int (iv 35), .long tl, .int (nI 3), .int (nI (sA i0)), .int (nI 2), .int (nI ((sA i0 + 2) + 1)), .ref (ad 41), .ref (ad 42), .int (iv 43)]))) := w
                obtain ⟨h1510, u1513⟩ : ∃ z, z = pd_up h1503 y (20, .inr (10, [.ref (ad 0), .ref (ad 1), .ref (ad 2), .int (iv 3), .int (iv 4), .int (iv 5), .ref (ad 6), .ref (ad 7), .ref (ad 8), .ref (ad 9), .ref (ad 10), .ref (ad 11), .int (iv 12), .ref (ad 13), .ref (ad 14), .ref (ad 15), .ref (ad 16), .ref (ad 17), .ref (ad 18), .ref (ad 19), .int (iv 20), .ref (ad 21), .ref (ad 22), .ref (ad 23), .ref (ad 24), .ref (ad 25), .ref (ad 26), .ref (ad 27), .ref (ad 28), .int (iv 29), .ref (ad 30), .ref (ad 31), .int (iv 32), .int (iv 33), .int (iv 34), .int (iv 35), .long tl, .int (nI 3), .int (nI (sA i0)), .int (nI 2), .int (nI ((sA i0 + 2) + 1)), .ref (ad 41), .ref (ad 42), .int (iv 43)])) := ⟨_, rfl⟩
                rw [← u1513] at w
                have k1511 : pd_kq y h1503 h1510 := by rw [u1513]; exact pd_up_kq
                have f1512 : h1510 y = some (20, .inr (10, [.ref (ad 0), .ref (ad 1), .ref (ad 2), .int (iv 3), .int (iv 4), .int (iv 5), .ref (ad 6), .ref (ad 7), .ref (ad 8), .ref (ad 9), .ref (ad 10), .ref (ad 11), .int (iv 12), .ref (ad 13), .ref (ad 14), .ref (ad 15), .ref (ad 16), .ref (ad 17), .ref (ad 18), .ref (ad 19), .int (iv 20), .ref (ad 21), .ref (ad 22), .ref (ad 23), .ref (ad 24), .ref (ad 25), .ref (ad 26), .ref (ad 27), .ref (ad 28), .int (iv 29), .ref (ad 30), .ref (ad 31), .int (iv 32), .int (iv 33), .int (iv 34), .int (iv 35), .long tl, .int (nI 3), .int (nI (sA i0)), .int (nI 2), .int (nI ((sA i0 + 2) + 1)), .ref (ad 41), .ref (ad 42), .int (iv 43)])) := by rw [u1513]; exact pd_up_s _ _ _
                have f1514 := k1511 _ _ (pd_ne f1507 f1505 (by simp)) f1507
                have f1515 := k1511 _ _ (pd_ne f1508 f1505 (by simp)) f1508
                have f1516 := k1511 _ _ (pd_ne f1509 f1505 (by simp)) f1509
                refine lv_aload_n hx hb d_p15m16_232 rfl (lv_at hl 2 rfl) ?_
                refine pd_get X w f1512 rfl 39 (by decide) mT_1178 rfl rfl d_p15m16_233 ?_
                refine lv_iconst (v := nI 1) hx hb d_p15m16_236 (by decide) ?_
                refine pd_jeq (tgt := 252) hx hb d_p15m16_237 (by decide) (by decide) (by decide) (fun q => absurd q (by decide)) (fun _ => ?_)
                refine lv_aload_n hx hb d_p15m16_240 rfl (lv_at hl 2 rfl) ?_
                refine lv_iload_n hx hb d_p15m16_241 rfl (lv_at hl 0 rfl) ?_
                refine lv_iconst (v := nI 1) hx hb d_p15m16_242 (by decide) ?_
                refine pd_iadd hx hb d_p15m16_243 ?_
                refine lv_iload_n hx hb d_p15m16_244 rfl (lv_at hl 1 rfl) ?_
                refine pd_cV (a := y) (As := [.int (nI ((sA i0 + 2) + 1)), .int (nI (eA i0))]) (rest := []) X w f1512 rfl (c_PolicyDeskModel_behindPart l G h1510 (ad := ad) (fv := fv) (iv := pd_fu (pd_fu (pd_fu (pd_fu iv 37 (nI 3)) 38 (nI (sA i0))) 39 (nI 2)) 40 (nI ((sA i0 + 2) + 1))) (tl := tl) (pd_MO.of (fv2 := fv) (iv2 := pd_fu (pd_fu (pd_fu (pd_fu iv 37 (nI 3)) 38 (nI (sA i0))) 39 (nI 2)) 40 (nI ((sA i0 + 2) + 1))) (tl2 := tl) (ts := [20]) hMO (pd_kx.tr (pd_kx.tr (pd_kx.tr (pd_kx.tr (pd_kx.tr (pd_kq.kx (k2) hy0) (pd_kq.kx (k9) f3)) (pd_kq.kx (k1486) f10)) (pd_kq.kx (k1493) f1487)) (pd_kq.kx (k1504) f1494)) (pd_kq.kx (k1511) f1505)) f1512 (fun j hj => Or.inr ⟨fun z => by first | (simp at z; done) | (simp at z; omega), rfl⟩)) hL (by omega) (by omega)) ok_PolicyDeskModel_behindPart ⟨mT_1315, sT_19⟩ mT_1313 ⟨by decide, by decide⟩ rfl hl.1 rfl (Nat.le_of_ble_eq_true rfl) d_p15m16_245 ⟨by decide, by decide⟩ (fun r1518 h1519 H locs hp1520 w => ?_)
                refine W.widen (k := 0) (n := 0) (by decide) (by decide) ?_
                obtain ⟨e1521, rfl⟩ := hp1520
                have hpl := gm_part_le (cs := cs) (x := sA i0 + 2 + 1) (to := eA i0) (by omega)
                refine lv_iload_n hx hb d_p15m16_248 rfl (lv_at hl 1 rfl) ?_
                refine pd_jne (tgt := 256) hx hb d_p15m16_249 (by decide) (by omega) (by omega) (fun q1522 => ?_) (fun q1522 => ?_)
                · -- taken: 256
                  refine lv_iconst (v := nI 0) hx hb d_p15m16_256 (by decide) ?_
                  have hpt : gm_pt cs (sA i0 + 2) (eA i0) = none := by unfold gm_pt; rw [if_neg (by omega), if_neg (by omega), if_neg (by omega), if_neg (by rw [← e1521]; omega)]
                  have hp : gm_pat cs (sA i0) (eA i0) = none := by unfold gm_pat; rw [hph]; simp only [hpt]
                  refine W.eq (g2 := F0 m 257 ls [.int (pd_b false)]) rfl ?_
                  exact pd_zret (v := false) X w ⟨by rw [hp]; rfl, pd_kx.tr (pd_kx.tr (pd_kx.tr (pd_kx.tr (pd_kx.tr (pd_kq.kx (k2) hy0) (pd_kq.kx (k9) f3)) (pd_kq.kx (k1486) f10)) (pd_kq.kx (k1493) f1487)) (pd_kq.kx (k1504) f1494)) (pd_kq.kx (k1511) f1505), (nI 3), (nI (sA i0)), (nI 2), (nI ((sA i0 + 2) + 1)), (pd_MO.of (fv2 := fv) (iv2 := pd_fu (pd_fu (pd_fu (pd_fu iv 37 (nI 3)) 38 (nI (sA i0))) 39 (nI 2)) 40 (nI ((sA i0 + 2) + 1))) (tl2 := tl) (ts := [20]) hMO (pd_kx.tr (pd_kx.tr (pd_kx.tr (pd_kx.tr (pd_kx.tr (pd_kq.kx (k2) hy0) (pd_kq.kx (k9) f3)) (pd_kq.kx (k1486) f10)) (pd_kq.kx (k1493) f1487)) (pd_kq.kx (k1504) f1494)) (pd_kq.kx (k1511) f1505)) f1512 (fun j hj => Or.inr ⟨fun z => by first | (simp at z; done) | (simp at z; omega), rfl⟩)), fun t9 ht9 => by rw [hp] at ht9; cases ht9⟩ (by decide) (by decide) d_p15m16_257
                · -- not taken: 252
                  refine lv_iconst (v := nI 1) hx hb d_p15m16_252 (by decide) ?_
                  refine lv_goto (tgt := 257) hx hb d_p15m16_253 (by decide) ?_
                  have hpt : gm_pt cs (sA i0 + 2) (eA i0) = some (2, sA i0 + 2 + 1) := by unfold gm_pt; rw [if_neg (by omega), if_neg (by omega), if_neg (by omega), if_pos (by rw [← e1521]; omega)]
                  have hp : gm_pat cs (sA i0) (eA i0) = some (3, sA i0, 2, sA i0 + 2 + 1) := by unfold gm_pat; rw [hph]; simp only [hpt]
                  refine W.eq (g2 := F0 m 257 ls [.int (pd_b true)]) rfl ?_
                  exact pd_zret (v := true) X w ⟨by rw [hp]; rfl, pd_kx.tr (pd_kx.tr (pd_kx.tr (pd_kx.tr (pd_kx.tr (pd_kq.kx (k2) hy0) (pd_kq.kx (k9) f3)) (pd_kq.kx (k1486) f10)) (pd_kq.kx (k1493) f1487)) (pd_kq.kx (k1504) f1494)) (pd_kq.kx (k1511) f1505), (nI 3), (nI (sA i0)), (nI 2), (nI ((sA i0 + 2) + 1)), (pd_MO.of (fv2 := fv) (iv2 := pd_fu (pd_fu (pd_fu (pd_fu iv 37 (nI 3)) 38 (nI (sA i0))) 39 (nI 2)) 40 (nI ((sA i0 + 2) + 1))) (tl2 := tl) (ts := [20]) hMO (pd_kx.tr (pd_kx.tr (pd_kx.tr (pd_kx.tr (pd_kx.tr (pd_kq.kx (k2) hy0) (pd_kq.kx (k9) f3)) (pd_kq.kx (k1486) f10)) (pd_kq.kx (k1493) f1487)) (pd_kq.kx (k1504) f1494)) (pd_kq.kx (k1511) f1505)) f1512 (fun j hj => Or.inr ⟨fun z => by first | (simp at z; done) | (simp at z; omega), rfl⟩)), fun t9 ht9 => by rw [hp] at ht9; cases ht9; exact ⟨rfl, rfl, rfl, rfl⟩⟩ (by decide) (by decide) d_p15m16_257
              · -- not taken: 210
                refine lv_iload_n hx hb d_p15m16_210 rfl (lv_at hl 0 rfl) ?_
                refine lv_iconst (v := nI 2) hx hb d_p15m16_211 (by decide) ?_
                refine pd_iadd hx hb d_p15m16_212 ?_
                refine lv_iload_n hx hb d_p15m16_213 rfl (lv_at hl 1 rfl) ?_
                refine pd_jne (tgt := 221) hx hb d_p15m16_214 (by decide) (by omega) (by omega) (fun q1523 => ?_) (fun q1523 => ?_)
                · -- taken: 221
                  refine lv_iconst (v := nI 2) hx hb d_p15m16_221 (by decide) ?_
                  refine pd_put (ty := .int) X w f1494 hz_y rfl 39 (by decide) mT_1178 rfl rfl (by decide +kernel) rfl rfl (Nat.le_of_ble_eq_true rfl) d_p15m16_222 (fun H locs w => ?_)
                  have w : pd_w G s H locs (pd_up h1492 y (20, .inr (10, [.ref (ad 0), .ref (ad 1), .ref (ad 2), .int (iv 3), .int (iv 4), .int (iv 5), .ref (ad 6), .ref (ad 7), .ref (ad 8), .ref (ad 9), .ref (ad 10), .ref (ad 11), .int (iv 12), .ref (ad 13), .ref (ad 14), .ref (ad 15), .ref (ad 16), .ref (ad 17), .ref (ad 18), .ref (ad 19), .int (iv 20), .ref (ad 21), .ref (ad 22), .ref (ad 23), .ref (ad 24), .ref (ad 25), .ref (ad 26), .ref (ad 27), .ref (ad 28), .int (iv 29), .ref (ad 30), .ref (ad 31), .int (iv 32), .int (iv 33), .int (iv 34), .int (iv 35), .long tl, .int (nI 3), .int (nI (sA i0)), .int (nI 2), .int (nI (eA i0)), .ref (ad 41), .ref (ad 42), .int (iv 43)]))) := w
                  obtain ⟨h1524, u1527⟩ : ∃ z, z = pd_up h1492 y (20, .inr (10, [.ref (ad 0), .ref (ad 1), .ref (ad 2), .int (iv 3), .int (iv 4), .int (iv 5), .ref (ad 6), .ref (ad 7), .ref (ad 8), .ref (ad 9), .ref (ad 10), .ref (ad 11), .int (iv 12), .ref (ad 13), .ref (ad 14), .ref (ad 15), .ref (ad 16), .ref (ad 17), .ref (ad 18), .ref (ad 19), .int (iv 20), .ref (ad 21), .ref (ad 22), .ref (ad 23), .ref (ad 24), .ref (ad 25), .ref (ad 26), .ref (ad 27), .ref (ad 28), .int (iv 29), .ref (ad 30), .ref (ad 31), .int (iv 32), .int (iv 33), .int (iv 34), .int (iv 35), .long tl, .int (nI 3), .int (nI (sA i0)), .int (nI 2), .int (nI (eA i0)), .ref (ad 41), .ref (ad 42), .int (iv 43)])) := ⟨_, rfl⟩
                  rw [← u1527] at w
                  have k1525 : pd_kq y h1492 h1524 := by rw [u1527]; exact pd_up_kq
                  have f1526 : h1524 y = some (20, .inr (10, [.ref (ad 0), .ref (ad 1), .ref (ad 2), .int (iv 3), .int (iv 4), .int (iv 5), .ref (ad 6), .ref (ad 7), .ref (ad 8), .ref (ad 9), .ref (ad 10), .ref (ad 11), .int (iv 12), .ref (ad 13), .ref (ad 14), .ref (ad 15), .ref (ad 16), .ref (ad 17), .ref (ad 18), .ref (ad 19), .int (iv 20), .ref (ad 21), .ref (ad 22), .ref (ad 23), .ref (ad 24), .ref (ad 25), .ref (ad 26), .ref (ad 27), .ref (ad 28), .int (iv 29), .ref (ad 30), .ref (ad 31), .int (iv 32), .int (iv 33), .int (iv 34), .int (iv 35), .long tl, .int (nI 3), .int (nI (sA i0)), .int (nI 2), .int (nI (eA i0)), .ref (ad 41), .ref (ad 42), .int (iv 43)])) := by rw [u1527]; exact pd_up_s _ _ _
                  have f1528 := k1525 _ _ (pd_ne f1496 f1494 (by simp)) f1496
                  have f1529 := k1525 _ _ (pd_ne f1497 f1494 (by simp)) f1497
                  have f1530 := k1525 _ _ (pd_ne f1498 f1494 (by simp)) f1498
                  refine lv_aload_n hx hb d_p15m16_225 rfl (lv_at hl 2 rfl) ?_
                  refine lv_iload_n hx hb d_p15m16_226 rfl (lv_at hl 0 rfl) ?_
                  refine lv_iconst (v := nI 1) hx hb d_p15m16_227 (by decide) ?_
                  refine pd_iadd hx hb d_p15m16_228 ?_
                  refine pd_put (ty := .int) X w f1526 hz_y rfl 40 (by decide) mT_1179 rfl rfl (by decide +kernel) rfl rfl (Nat.le_of_ble_eq_true rfl) d_p15m16_229 (fun H locs w => ?_)
                  have w : pd_w G s H locs (pd_up h1524 y (20, .inr (10, [.ref (ad 0), .ref (ad 1), .ref (ad 2), .int (iv 3), .int (iv 4), .int (iv 5), .ref (ad 6), .ref (ad 7), .ref (ad 8), .ref (ad 9), .ref (ad 10), .ref (ad 11), .int (iv 12), .ref (ad 13), .ref (ad 14), .ref (ad 15), .ref (ad 16), .ref (ad 17), .ref (ad 18), .ref (ad 19), .int (iv 20), .ref (ad 21), .ref (ad 22), .ref (ad 23), .ref (ad 24), .ref (ad 25), .ref (ad 26), .ref (ad 27), .ref (ad 28), .int (iv 29), .ref (ad 30), .ref (ad 31), .int (iv 32), .int (iv 33), .int (iv 34), .int (iv 35), .long tl, .int (nI 3), .int (nI (sA i0)), .int (nI 2), .int (nI ((sA i0 + 2) + 1)), .ref (ad 41), .ref (ad 42), .int (iv 43)]))) := w
                  obtain ⟨h1531, u1534⟩ : ∃ z, z = pd_up h1524 y (20, .inr (10, [.ref (ad 0), .ref (ad 1), .ref (ad 2), .int (iv 3), .int (iv 4), .int (iv 5), .ref (ad 6), .ref (ad 7), .ref (ad 8), .ref (ad 9), .ref (ad 10), .ref (ad 11), .int (iv 12), .ref (ad 13), .ref (ad 14), .ref (ad 15), .ref (ad 16), .ref (ad 17), .ref (ad 18), .ref (ad 19), .int (iv 20), .ref (ad 21), .ref (ad 22), .ref (ad 23), .ref (ad 24), .ref (ad 25), .ref (ad 26), .ref (ad 27), .ref (ad 28), .int (iv 29), .ref (ad 30), .ref (ad 31), .int (iv 32), .int (iv 33), .int (iv 34), .int (iv 35), .long tl, .int (nI 3), .int (nI (sA i0)), .int (nI 2), .int (nI ((sA i0 + 2) + 1)), .ref (ad 41), .ref (ad 42), .int (iv 43)])) := ⟨_, rfl⟩
                  rw [← u1534] at w
                  have k1532 : pd_kq y h1524 h1531 := by rw [u1534]; exact pd_up_kq
                  have f1533 : h1531 y = some (20, .inr (10, [.ref (ad 0), .ref (ad 1), .ref (ad 2), .int (iv 3), .int (iv 4), .int (iv 5), .ref (ad 6), .ref (ad 7), .ref (ad 8), .ref (ad 9), .ref (ad 10), .ref (ad 11), .int (iv 12), .ref (ad 13), .ref (ad 14), .ref (ad 15), .ref (ad 16), .ref (ad 17), .ref (ad 18), .ref (ad 19), .int (iv 20), .ref (ad 21), .ref (ad 22), .ref (ad 23), .ref (ad 24), .ref (ad 25), .ref (ad 26), .ref (ad 27), .ref (ad 28), .int (iv 29), .ref (ad 30), .ref (ad 31), .int (iv 32), .int (iv 33), .int (iv 34), .int (iv 35), .long tl, .int (nI 3), .int (nI (sA i0)), .int (nI 2), .int (nI ((sA i0 + 2) + 1)), .ref (ad 41), .ref (ad 42), .int (iv 43)])) := by rw [u1534]; exact pd_up_s _ _ _
                  have f1535 := k1532 _ _ (pd_ne f1528 f1526 (by simp)) f1528
                  have f1536 := k1532 _ _ (pd_ne f1529 f1526 (by simp)) f1529
                  have f1537 := k1532 _ _ (pd_ne f1530 f1526 (by simp)) f1530
                  refine lv_aload_n hx hb d_p15m16_232 rfl (lv_at hl 2 rfl) ?_
                  refine pd_get X w f1533 rfl 39 (by decide) mT_1178 rfl rfl d_p15m16_233 ?_
                  refine lv_iconst (v := nI 1) hx hb d_p15m16_236 (by decide) ?_
                  refine pd_jeq (tgt := 252) hx hb d_p15m16_237 (by decide) (by decide) (by decide) (fun q => absurd q (by decide)) (fun _ => ?_)
                  refine lv_aload_n hx hb d_p15m16_240 rfl (lv_at hl 2 rfl) ?_
                  refine lv_iload_n hx hb d_p15m16_241 rfl (lv_at hl 0 rfl) ?_
                  refine lv_iconst (v := nI 1) hx hb d_p15m16_242 (by decide) ?_
                  refine pd_iadd hx hb d_p15m16_243 ?_
                  refine lv_iload_n hx hb d_p15m16_244 rfl (lv_at hl 1 rfl) ?_
                  refine pd_cV (a := y) (As := [.int (nI ((sA i0 + 2) + 1)), .int (nI (eA i0))]) (rest := []) X w f1533 rfl (c_PolicyDeskModel_behindPart l G h1531 (ad := ad) (fv := fv) (iv := pd_fu (pd_fu (pd_fu (pd_fu iv 37 (nI 3)) 38 (nI (sA i0))) 39 (nI 2)) 40 (nI ((sA i0 + 2) + 1))) (tl := tl) (pd_MO.of (fv2 := fv) (iv2 := pd_fu (pd_fu (pd_fu (pd_fu iv 37 (nI 3)) 38 (nI (sA i0))) 39 (nI 2)) 40 (nI ((sA i0 + 2) + 1))) (tl2 := tl) (ts := [20]) hMO (pd_kx.tr (pd_kx.tr (pd_kx.tr (pd_kx.tr (pd_kx.tr (pd_kq.kx (k2) hy0) (pd_kq.kx (k9) f3)) (pd_kq.kx (k1486) f10)) (pd_kq.kx (k1493) f1487)) (pd_kq.kx (k1525) f1494)) (pd_kq.kx (k1532) f1526)) f1533 (fun j hj => Or.inr ⟨fun z => by first | (simp at z; done) | (simp at z; omega), rfl⟩)) hL (by omega) (by omega)) ok_PolicyDeskModel_behindPart ⟨mT_1315, sT_19⟩ mT_1313 ⟨by decide, by decide⟩ rfl hl.1 rfl (Nat.le_of_ble_eq_true rfl) d_p15m16_245 ⟨by decide, by decide⟩ (fun r1539 h1540 H locs hp1541 w => ?_)
                  refine W.widen (k := 0) (n := 0) (by decide) (by decide) ?_
                  obtain ⟨e1542, rfl⟩ := hp1541
                  have hpl := gm_part_le (cs := cs) (x := sA i0 + 2 + 1) (to := eA i0) (by omega)
                  refine lv_iload_n hx hb d_p15m16_248 rfl (lv_at hl 1 rfl) ?_
                  refine pd_jne (tgt := 256) hx hb d_p15m16_249 (by decide) (by omega) (by omega) (fun q1543 => ?_) (fun q1543 => ?_)
                  · -- taken: 256
                    refine lv_iconst (v := nI 0) hx hb d_p15m16_256 (by decide) ?_
                    have hpt : gm_pt cs (sA i0 + 2) (eA i0) = none := by unfold gm_pt; rw [if_neg (by omega), if_neg (by omega), if_neg (by omega), if_neg (by rw [← e1542]; omega)]
                    have hp : gm_pat cs (sA i0) (eA i0) = none := by unfold gm_pat; rw [hph]; simp only [hpt]
                    refine W.eq (g2 := F0 m 257 ls [.int (pd_b false)]) rfl ?_
                    exact pd_zret (v := false) X w ⟨by rw [hp]; rfl, pd_kx.tr (pd_kx.tr (pd_kx.tr (pd_kx.tr (pd_kx.tr (pd_kq.kx (k2) hy0) (pd_kq.kx (k9) f3)) (pd_kq.kx (k1486) f10)) (pd_kq.kx (k1493) f1487)) (pd_kq.kx (k1525) f1494)) (pd_kq.kx (k1532) f1526), (nI 3), (nI (sA i0)), (nI 2), (nI ((sA i0 + 2) + 1)), (pd_MO.of (fv2 := fv) (iv2 := pd_fu (pd_fu (pd_fu (pd_fu iv 37 (nI 3)) 38 (nI (sA i0))) 39 (nI 2)) 40 (nI ((sA i0 + 2) + 1))) (tl2 := tl) (ts := [20]) hMO (pd_kx.tr (pd_kx.tr (pd_kx.tr (pd_kx.tr (pd_kx.tr (pd_kq.kx (k2) hy0) (pd_kq.kx (k9) f3)) (pd_kq.kx (k1486) f10)) (pd_kq.kx (k1493) f1487)) (pd_kq.kx (k1525) f1494)) (pd_kq.kx (k1532) f1526)) f1533 (fun j hj => Or.inr ⟨fun z => by first | (simp at z; done) | (simp at z; omega), rfl⟩)), fun t9 ht9 => by rw [hp] at ht9; cases ht9⟩ (by decide) (by decide) d_p15m16_257
                  · -- not taken: 252
                    refine lv_iconst (v := nI 1) hx hb d_p15m16_252 (by decide) ?_
                    refine lv_goto (tgt := 257) hx hb d_p15m16_253 (by decide) ?_
                    have hpt : gm_pt cs (sA i0 + 2) (eA i0) = some (2, sA i0 + 2 + 1) := by unfold gm_pt; rw [if_neg (by omega), if_neg (by omega), if_neg (by omega), if_pos (by rw [← e1542]; omega)]
                    have hp : gm_pat cs (sA i0) (eA i0) = some (3, sA i0, 2, sA i0 + 2 + 1) := by unfold gm_pat; rw [hph]; simp only [hpt]
                    refine W.eq (g2 := F0 m 257 ls [.int (pd_b true)]) rfl ?_
                    exact pd_zret (v := true) X w ⟨by rw [hp]; rfl, pd_kx.tr (pd_kx.tr (pd_kx.tr (pd_kx.tr (pd_kx.tr (pd_kq.kx (k2) hy0) (pd_kq.kx (k9) f3)) (pd_kq.kx (k1486) f10)) (pd_kq.kx (k1493) f1487)) (pd_kq.kx (k1525) f1494)) (pd_kq.kx (k1532) f1526), (nI 3), (nI (sA i0)), (nI 2), (nI ((sA i0 + 2) + 1)), (pd_MO.of (fv2 := fv) (iv2 := pd_fu (pd_fu (pd_fu (pd_fu iv 37 (nI 3)) 38 (nI (sA i0))) 39 (nI 2)) 40 (nI ((sA i0 + 2) + 1))) (tl2 := tl) (ts := [20]) hMO (pd_kx.tr (pd_kx.tr (pd_kx.tr (pd_kx.tr (pd_kx.tr (pd_kq.kx (k2) hy0) (pd_kq.kx (k9) f3)) (pd_kq.kx (k1486) f10)) (pd_kq.kx (k1493) f1487)) (pd_kq.kx (k1525) f1494)) (pd_kq.kx (k1532) f1526)) f1533 (fun j hj => Or.inr ⟨fun z => by first | (simp at z; done) | (simp at z; omega), rfl⟩)), fun t9 ht9 => by rw [hp] at ht9; cases ht9; exact ⟨rfl, rfl, rfl, rfl⟩⟩ (by decide) (by decide) d_p15m16_257
                · -- not taken: 217
                  refine lv_iconst (v := nI 1) hx hb d_p15m16_217 (by decide) ?_
                  refine lv_goto (tgt := 222) hx hb d_p15m16_218 (by decide) ?_
                  refine pd_put (ty := .int) X w f1494 hz_y rfl 39 (by decide) mT_1178 rfl rfl (by decide +kernel) rfl rfl (Nat.le_of_ble_eq_true rfl) d_p15m16_222 (fun H locs w => ?_)
                  have w : pd_w G s H locs (pd_up h1492 y (20, .inr (10, [.ref (ad 0), .ref (ad 1), .ref (ad 2), .int (iv 3), .int (iv 4), .int (iv 5), .ref (ad 6), .ref (ad 7), .ref (ad 8), .ref (ad 9), .ref (ad 10), .ref (ad 11), .int (iv 12), .ref (ad 13), .ref (ad 14), .ref (ad 15), .ref (ad 16), .ref (ad 17), .ref (ad 18), .ref (ad 19), .int (iv 20), .ref (ad 21), .ref (ad 22), .ref (ad 23), .ref (ad 24), .ref (ad 25), .ref (ad 26), .ref (ad 27), .ref (ad 28), .int (iv 29), .ref (ad 30), .ref (ad 31), .int (iv 32), .int (iv 33), .int (iv 34), .int (iv 35), .long tl, .int (nI 3), .int (nI (sA i0)), .int (nI 1), .int (nI (eA i0)), .ref (ad 41), .ref (ad 42), .int (iv 43)]))) := w
                  obtain ⟨h1544, u1547⟩ : ∃ z, z = pd_up h1492 y (20, .inr (10, [.ref (ad 0), .ref (ad 1), .ref (ad 2), .int (iv 3), .int (iv 4), .int (iv 5), .ref (ad 6), .ref (ad 7), .ref (ad 8), .ref (ad 9), .ref (ad 10), .ref (ad 11), .int (iv 12), .ref (ad 13), .ref (ad 14), .ref (ad 15), .ref (ad 16), .ref (ad 17), .ref (ad 18), .ref (ad 19), .int (iv 20), .ref (ad 21), .ref (ad 22), .ref (ad 23), .ref (ad 24), .ref (ad 25), .ref (ad 26), .ref (ad 27), .ref (ad 28), .int (iv 29), .ref (ad 30), .ref (ad 31), .int (iv 32), .int (iv 33), .int (iv 34), .int (iv 35), .long tl, .int (nI 3), .int (nI (sA i0)), .int (nI 1), .int (nI (eA i0)), .ref (ad 41), .ref (ad 42), .int (iv 43)])) := ⟨_, rfl⟩
                  rw [← u1547] at w
                  have k1545 : pd_kq y h1492 h1544 := by rw [u1547]; exact pd_up_kq
                  have f1546 : h1544 y = some (20, .inr (10, [.ref (ad 0), .ref (ad 1), .ref (ad 2), .int (iv 3), .int (iv 4), .int (iv 5), .ref (ad 6), .ref (ad 7), .ref (ad 8), .ref (ad 9), .ref (ad 10), .ref (ad 11), .int (iv 12), .ref (ad 13), .ref (ad 14), .ref (ad 15), .ref (ad 16), .ref (ad 17), .ref (ad 18), .ref (ad 19), .int (iv 20), .ref (ad 21), .ref (ad 22), .ref (ad 23), .ref (ad 24), .ref (ad 25), .ref (ad 26), .ref (ad 27), .ref (ad 28), .int (iv 29), .ref (ad 30), .ref (ad 31), .int (iv 32), .int (iv 33), .int (iv 34), .int (iv 35), .long tl, .int (nI 3), .int (nI (sA i0)), .int (nI 1), .int (nI (eA i0)), .ref (ad 41), .ref (ad 42), .int (iv 43)])) := by rw [u1547]; exact pd_up_s _ _ _
                  have f1548 := k1545 _ _ (pd_ne f1496 f1494 (by simp)) f1496
                  have f1549 := k1545 _ _ (pd_ne f1497 f1494 (by simp)) f1497
                  have f1550 := k1545 _ _ (pd_ne f1498 f1494 (by simp)) f1498
                  refine lv_aload_n hx hb d_p15m16_225 rfl (lv_at hl 2 rfl) ?_
                  refine lv_iload_n hx hb d_p15m16_226 rfl (lv_at hl 0 rfl) ?_
                  refine lv_iconst (v := nI 1) hx hb d_p15m16_227 (by decide) ?_
                  refine pd_iadd hx hb d_p15m16_228 ?_
                  refine pd_put (ty := .int) X w f1546 hz_y rfl 40 (by decide) mT_1179 rfl rfl (by decide +kernel) rfl rfl (Nat.le_of_ble_eq_true rfl) d_p15m16_229 (fun H locs w => ?_)
                  have w : pd_w G s H locs (pd_up h1544 y (20, .inr (10, [.ref (ad 0), .ref (ad 1), .ref (ad 2), .int (iv 3), .int (iv 4), .int (iv 5), .ref (ad 6), .ref (ad 7), .ref (ad 8), .ref (ad 9), .ref (ad 10), .ref (ad 11), .int (iv 12), .ref (ad 13), .ref (ad 14), .ref (ad 15), .ref (ad 16), .ref (ad 17), .ref (ad 18), .ref (ad 19), .int (iv 20), .ref (ad 21), .ref (ad 22), .ref (ad 23), .ref (ad 24), .ref (ad 25), .ref (ad 26), .ref (ad 27), .ref (ad 28), .int (iv 29), .ref (ad 30), .ref (ad 31), .int (iv 32), .int (iv 33), .int (iv 34), .int (iv 35), .long tl, .int (nI 3), .int (nI (sA i0)), .int (nI 1), .int (nI ((sA i0 + 2) + 1)), .ref (ad 41), .ref (ad 42), .int (iv 43)]))) := w
                  obtain ⟨h1551, u1554⟩ : ∃ z, z = pd_up h1544 y (20, .inr (10, [.ref (ad 0), .ref (ad 1), .ref (ad 2), .int (iv 3), .int (iv 4), .int (iv 5), .ref (ad 6), .ref (ad 7), .ref (ad 8), .ref (ad 9), .ref (ad 10), .ref (ad 11), .int (iv 12), .ref (ad 13), .ref (ad 14), .ref (ad 15), .ref (ad 16), .ref (ad 17), .ref (ad 18), .ref (ad 19), .int (iv 20), .ref (ad 21), .ref (ad 22), .ref (ad 23), .ref (ad 24), .ref (ad 25), .ref (ad 26), .ref (ad 27), .ref (ad 28), .int (iv 29), .ref (ad 30), .ref (ad 31), .int (iv 32), .int (iv 33), .int (iv 34), .int (iv 35), .long tl, .int (nI 3), .int (nI (sA i0)), .int (nI 1), .int (nI ((sA i0 + 2) + 1)), .ref (ad 41), .ref (ad 42), .int (iv 43)])) := ⟨_, rfl⟩
                  rw [← u1554] at w
                  have k1552 : pd_kq y h1544 h1551 := by rw [u1554]; exact pd_up_kq
                  have f1553 : h1551 y = some (20, .inr (10, [.ref (ad 0), .ref (ad 1), .ref (ad 2), .int (iv 3), .int (iv 4), .int (iv 5), .ref (ad 6), .ref (ad 7), .ref (ad 8), .ref (ad 9), .ref (ad 10), .ref (ad 11), .int (iv 12), .ref (ad 13), .ref (ad 14), .ref (ad 15), .ref (ad 16), .ref (ad 17), .ref (ad 18), .ref (ad 19), .int (iv 20), .ref (ad 21), .ref (ad 22), .ref (ad 23), .ref (ad 24), .ref (ad 25), .ref (ad 26), .ref (ad 27), .ref (ad 28), .int (iv 29), .ref (ad 30), .ref (ad 31), .int (iv 32), .int (iv 33), .int (iv 34), .int (iv 35), .long tl, .int (nI 3), .int (nI (sA i0)), .int (nI 1), .int (nI ((sA i0 + 2) + 1)), .ref (ad 41), .ref (ad 42), .int (iv 43)])) := by rw [u1554]; exact pd_up_s _ _ _
                  have f1555 := k1552 _ _ (pd_ne f1548 f1546 (by simp)) f1548
                  have f1556 := k1552 _ _ (pd_ne f1549 f1546 (by simp)) f1549
                  have f1557 := k1552 _ _ (pd_ne f1550 f1546 (by simp)) f1550
                  refine lv_aload_n hx hb d_p15m16_232 rfl (lv_at hl 2 rfl) ?_
                  refine pd_get X w f1553 rfl 39 (by decide) mT_1178 rfl rfl d_p15m16_233 ?_
                  refine lv_iconst (v := nI 1) hx hb d_p15m16_236 (by decide) ?_
                  refine pd_jeq (tgt := 252) hx hb d_p15m16_237 (by decide) (by decide) (by decide) (fun _ => ?_) (fun q => absurd q (by decide))
                  refine lv_iconst (v := nI 1) hx hb d_p15m16_252 (by decide) ?_
                  refine lv_goto (tgt := 257) hx hb d_p15m16_253 (by decide) ?_
                  have hpt : gm_pt cs (sA i0 + 2) (eA i0) = some (1, sA i0 + 2 + 1) := by unfold gm_pt; rw [if_neg (by omega), if_neg (by omega), if_pos (by omega)]
                  have hp : gm_pat cs (sA i0) (eA i0) = some (3, sA i0, 1, sA i0 + 2 + 1) := by unfold gm_pat; rw [hph]; simp only [hpt]
                  refine W.eq (g2 := F0 m 257 ls [.int (pd_b true)]) rfl ?_
                  exact pd_zret (v := true) X w ⟨by rw [hp]; rfl, pd_kx.tr (pd_kx.tr (pd_kx.tr (pd_kx.tr (pd_kx.tr (pd_kq.kx (k2) hy0) (pd_kq.kx (k9) f3)) (pd_kq.kx (k1486) f10)) (pd_kq.kx (k1493) f1487)) (pd_kq.kx (k1545) f1494)) (pd_kq.kx (k1552) f1546), (nI 3), (nI (sA i0)), (nI 1), (nI ((sA i0 + 2) + 1)), (pd_MO.of (fv2 := fv) (iv2 := pd_fu (pd_fu (pd_fu (pd_fu iv 37 (nI 3)) 38 (nI (sA i0))) 39 (nI 1)) 40 (nI ((sA i0 + 2) + 1))) (tl2 := tl) (ts := [20]) hMO (pd_kx.tr (pd_kx.tr (pd_kx.tr (pd_kx.tr (pd_kx.tr (pd_kq.kx (k2) hy0) (pd_kq.kx (k9) f3)) (pd_kq.kx (k1486) f10)) (pd_kq.kx (k1493) f1487)) (pd_kq.kx (k1545) f1494)) (pd_kq.kx (k1552) f1546)) f1553 (fun j hj => Or.inr ⟨fun z => by first | (simp at z; done) | (simp at z; omega), rfl⟩)), fun t9 ht9 => by rw [hp] at ht9; cases ht9; exact ⟨rfl, rfl, rfl, rfl⟩⟩ (by decide) (by decide) d_p15m16_257
            · -- not taken: 194
              refine lv_iconst (v := nI 0) hx hb d_p15m16_194 (by decide) ?_
              have hpt : gm_pt cs (sA i0 + 2) (eA i0) = none := by unfold gm_pt; rw [if_neg (by omega), if_pos (by omega)]
              have hp : gm_pat cs (sA i0) (eA i0) = none := by unfold gm_pat; rw [hph]; simp only [hpt]
              refine W.eq (g2 := F0 m 195 ls [.int (pd_b false)]) rfl ?_
              exact pd_zret (v := false) X w ⟨by rw [hp]; rfl, pd_kx.tr (pd_kx.tr (pd_kx.tr (pd_kq.kx (k2) hy0) (pd_kq.kx (k9) f3)) (pd_kq.kx (k1486) f10)) (pd_kq.kx (k1493) f1487), (nI 3), (nI (sA i0)), (nI 0), (nI (eA i0)), (pd_MO.of (fv2 := fv) (iv2 := pd_fu (pd_fu (pd_fu (pd_fu iv 37 (nI 3)) 38 (nI (sA i0))) 39 (nI 0)) 40 (nI (eA i0))) (tl2 := tl) (ts := [20]) hMO (pd_kx.tr (pd_kx.tr (pd_kx.tr (pd_kq.kx (k2) hy0) (pd_kq.kx (k9) f3)) (pd_kq.kx (k1486) f10)) (pd_kq.kx (k1493) f1487)) f1494 (fun j hj => Or.inr ⟨fun z => by first | (simp at z; done) | (simp at z; omega), rfl⟩)), fun t9 ht9 => by rw [hp] at ht9; cases ht9⟩ (by decide) (by decide) d_p15m16_195
        · -- not taken: 174
          refine lv_iconst (v := nI 1) hx hb d_p15m16_174 (by decide) ?_
          have hpt : gm_pt cs (sA i0 + 2) (eA i0) = some (0, eA i0) := by unfold gm_pt; rw [if_pos (by omega)]
          have hp : gm_pat cs (sA i0) (eA i0) = some (3, sA i0, 0, eA i0) := by unfold gm_pat; rw [hph]; simp only [hpt]
          refine W.eq (g2 := F0 m 175 ls [.int (pd_b true)]) rfl ?_
          exact pd_zret (v := true) X w ⟨by rw [hp]; rfl, pd_kx.tr (pd_kx.tr (pd_kx.tr (pd_kq.kx (k2) hy0) (pd_kq.kx (k9) f3)) (pd_kq.kx (k1486) f10)) (pd_kq.kx (k1493) f1487), (nI 3), (nI (sA i0)), (nI 0), (nI (eA i0)), (pd_MO.of (fv2 := fv) (iv2 := pd_fu (pd_fu (pd_fu (pd_fu iv 37 (nI 3)) 38 (nI (sA i0))) 39 (nI 0)) 40 (nI (eA i0))) (tl2 := tl) (ts := [20]) hMO (pd_kx.tr (pd_kx.tr (pd_kx.tr (pd_kq.kx (k2) hy0) (pd_kq.kx (k9) f3)) (pd_kq.kx (k1486) f10)) (pd_kq.kx (k1493) f1487)) f1494 (fun j hj => Or.inr ⟨fun z => by first | (simp at z; done) | (simp at z; omega), rfl⟩)), fun t9 ht9 => by rw [hp] at ht9; cases ht9; exact ⟨rfl, rfl, rfl, rfl⟩⟩ (by decide) (by decide) d_p15m16_175
