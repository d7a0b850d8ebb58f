/-! the reference takes a class -/
theorem gm_C_add {fv fv2 : Nat → Nat → Int32} {iv iv2 : Nat → Int32} {n : Nat} {R : Nat → pd_cr} {row : pd_cr} (hC : gm_C fv iv n R) (hn : n < 14) (hi : iv2 12 = nI (n + 1)) (e7 : fv2 7 = upd (fv 7) n (nI row.1.length)) (hl : row.1.length ≤ 24) (hc : ∀ x ∈ row.1, x < 256) (h6 : ∀ i, i < row.1.length → fv2 6 (24 * n + i) = nI (row.1.getD i 0)) (k6 : ∀ x, x < 24 * n → fv2 6 x = fv 6 x) (e8 : fv2 8 = upd (fv 8) n (pd_m row.2.2.1)) (e11 : fv2 11 = upd (fv 11) n (pd_b row.2.1)) (e10 : fv2 10 = upd (fv 10) n (nI (gm_fl row).length)) (h9 : ∀ i, i < (gm_fl row).length → fv2 9 (2 * n + i) = nI ((gm_fl row).getD i 0)) (k9 : ∀ x, x < 2 * n → fv2 9 x = fv 9 x) (h12 : row.2.2.2.1 = none → row.2.2.2.2.1 = none) (hg : gr_name row.1 = true) : gm_C fv2 iv2 (n + 1) (pd_fu R n row) := by
  obtain ⟨_, hn2, hn14, hCc⟩ := hC
  refine ⟨hi, by omega, by omega, fun j hj => ?_⟩
  rw [e7, e8, e10, e11]
  by_cases e : j = n
  · subst e
    rw [pd_fu_s, pk_us, pk_us, pk_us, pk_us]
    exact ⟨rfl, hl, h6, hc, rfl, rfl, rfl, h9, h12, hg⟩
  · obtain ⟨r1, r2, r3, r4, r5, r6, r7, r8, r9, r10⟩ := hCc j (by omega)
    rw [pd_fu_n e, pk_un e, pk_un e, pk_un e, pk_un e]
    refine ⟨r1, r2, fun i hi => ?_, r4, r5, r6, r7, fun i hi => ?_, r9, r10⟩
    · rw [k6 _ (by omega)]
      exact r3 i hi
    · have := gm_fl_le (R j)
      rw [k9 _ (by omega)]
      exact r8 i hi
theorem gm_C_9 {fv : Nat → Nat → Int32} {iv : Nat → Int32} {n : Nat} {R : Nat → pd_cr} {f : Nat → Int32} (hC : gm_C fv iv n R) (hf : ∀ x, x < 2 * n → f x = fv 9 x) : gm_C (pd_fu fv 9 f) iv n R := by
  obtain ⟨h1, hn2, hn14, hCc⟩ := hC
  refine ⟨h1, hn2, hn14, fun j hj => ?_⟩
  obtain ⟨r1, r2, r3, r4, r5, r6, r7, r8, r9, r10⟩ := hCc j hj
  refine ⟨r1, r2, r3, r4, r5, r6, r7, fun i hi => ?_, r9, r10⟩
  have := gm_fl_le (R j)
  exact (hf _ (by omega)).trans (r8 i hi)
theorem gm_find_w {fv : Nat → Nat → Int32} {iv : Nat → Int32} {n : Nat} {R : Nat → pd_cr} {cs : List Nat} {k : Nat} (hC : gm_C fv iv n R) (h : (gr_cut cs).1 ≤ k) : gr_find R n (gr_w cs k) = none := by
  unfold gr_w
  rw [if_neg (by omega)]
  unfold gr_find
  refine gr_fi_none (fun t ht => decide_eq_false (fun z => ?_))
  have h2 := (hC.2.2.2 t ht).2.2.2.2.2.2.2.2.2
  rw [z] at h2
  exact absurd h2 (by decide)
theorem gr_dc_l {n : Nat} {R : Nat → pd_cr} {cs : List Nat} {bi : Bool} {ff : Nat} {a : Int32} (h : gr_hd n R cs bi ff (gr_up n R cs bi) (gr_find R n (gr_w cs ff)) (gr_find R n (gr_w cs (ff + 1))) = .inl a) : gr_dc n R cs bi ff = (a, n, R) := by
  unfold gr_dc
  rw [h]
theorem gr_dc_r {n : Nat} {R : Nat → pd_cr} {cs : List Nat} {bi : Bool} {ff i : Nat} (h : gr_hd n R cs bi ff (gr_up n R cs bi) (gr_find R n (gr_w cs ff)) (gr_find R n (gr_w cs (ff + 1))) = .inr i) : gr_dc n R cs bi ff = gr_cadd n R (gr_row R n (gr_w cs 1) bi (some i) (gr_find R n (gr_w cs ff)) (gr_find R n (gr_w cs (ff + 1)))) := by
  unfold gr_dc
  rw [h]
theorem gm_name24 {cs : List Nat} (h : gr_name cs = true) : cs.length ≤ 24 := of_decide_eq_true (Bool.and_eq_true_iff.mp h).2
theorem d_p15m30_0 : decode prog_15_method_30_code 0 = .ok (.iload_n 1, 1) := by decide +kernel
theorem d_p15m30_1 : decode prog_15_method_30_code 1 = .ok (.iconst 2, 1) := by decide +kernel
theorem d_p15m30_2 : decode prog_15_method_30_code 2 = .ok (.if_icmp .lt 68, 3) := by decide +kernel
theorem d_p15m30_5 : decode prog_15_method_30_code 5 = .ok (.iload_n 1, 1) := by decide +kernel
theorem d_p15m30_6 : decode prog_15_method_30_code 6 = .ok (.iconst 3, 1) := by decide +kernel
theorem d_p15m30_7 : decode prog_15_method_30_code 7 = .ok (.if_icmp .eq 63, 3) := by decide +kernel
theorem d_p15m30_10 : decode prog_15_method_30_code 10 = .ok (.iload_n 1, 1) := by decide +kernel
theorem d_p15m30_11 : decode prog_15_method_30_code 11 = .ok (.iload_n 2, 1) := by decide +kernel
theorem d_p15m30_12 : decode prog_15_method_30_code 12 = .ok (.ifCond .eq 7, 3) := by decide +kernel
theorem d_p15m30_15 : decode prog_15_method_30_code 15 = .ok (.iconst 5, 1) := by decide +kernel
theorem d_p15m30_16 : decode prog_15_method_30_code 16 = .ok (.goto 5, 3) := by decide +kernel
theorem d_p15m30_19 : decode prog_15_method_30_code 19 = .ok (.bipush 6, 2) := by decide +kernel
theorem d_p15m30_21 : decode prog_15_method_30_code 21 = .ok (.if_icmp .gt 49, 3) := by decide +kernel
theorem d_p15m30_24 : decode prog_15_method_30_code 24 = .ok (.aload_n 0, 1) := by decide +kernel
theorem d_p15m30_25 : decode prog_15_method_30_code 25 = .ok (.iconst 1, 1) := by decide +kernel
theorem d_p15m30_26 : decode prog_15_method_30_code 26 = .ok (.invokevirtual 233, 3) := by decide +kernel
theorem d_p15m30_29 : decode prog_15_method_30_code 29 = .ok (.ifCond .eq 41, 3) := by decide +kernel
theorem d_p15m30_32 : decode prog_15_method_30_code 32 = .ok (.iload_n 1, 1) := by decide +kernel
theorem d_p15m30_33 : decode prog_15_method_30_code 33 = .ok (.iconst 3, 1) := by decide +kernel
theorem d_p15m30_34 : decode prog_15_method_30_code 34 = .ok (.if_icmp .le 38, 3) := by decide +kernel
theorem d_p15m30_37 : decode prog_15_method_30_code 37 = .ok (.aload_n 0, 1) := by decide +kernel
theorem d_p15m30_38 : decode prog_15_method_30_code 38 = .ok (.getfield 16, 3) := by decide +kernel
theorem d_p15m30_41 : decode prog_15_method_30_code 41 = .ok (.iconst 2, 1) := by decide +kernel
theorem d_p15m30_42 : decode prog_15_method_30_code 42 = .ok (.iaload, 1) := by decide +kernel
theorem d_p15m30_43 : decode prog_15_method_30_code 43 = .ok (.aload_n 0, 1) := by decide +kernel
theorem d_p15m30_44 : decode prog_15_method_30_code 44 = .ok (.getfield 13, 3) := by decide +kernel
theorem d_p15m30_47 : decode prog_15_method_30_code 47 = .ok (.iconst 2, 1) := by decide +kernel
theorem d_p15m30_48 : decode prog_15_method_30_code 48 = .ok (.iaload, 1) := by decide +kernel
theorem d_p15m30_49 : decode prog_15_method_30_code 49 = .ok (.isub, 1) := by decide +kernel
theorem d_p15m30_50 : decode prog_15_method_30_code 50 = .ok (.iconst 1, 1) := by decide +kernel
theorem d_p15m30_51 : decode prog_15_method_30_code 51 = .ok (.if_icmp .ne 19, 3) := by decide +kernel
theorem d_p15m30_54 : decode prog_15_method_30_code 54 = .ok (.aload_n 0, 1) := by decide +kernel
theorem d_p15m30_55 : decode prog_15_method_30_code 55 = .ok (.getfield 7, 3) := by decide +kernel
theorem d_p15m30_58 : decode prog_15_method_30_code 58 = .ok (.aload_n 0, 1) := by decide +kernel
theorem d_p15m30_59 : decode prog_15_method_30_code 59 = .ok (.getfield 13, 3) := by decide +kernel
theorem d_p15m30_62 : decode prog_15_method_30_code 62 = .ok (.iconst 2, 1) := by decide +kernel
theorem d_p15m30_63 : decode prog_15_method_30_code 63 = .ok (.iaload, 1) := by decide +kernel
theorem d_p15m30_64 : decode prog_15_method_30_code 64 = .ok (.iaload, 1) := by decide +kernel
theorem d_p15m30_65 : decode prog_15_method_30_code 65 = .ok (.bipush 58, 2) := by decide +kernel
theorem d_p15m30_67 : decode prog_15_method_30_code 67 = .ok (.if_icmp .eq 5, 3) := by decide +kernel
theorem d_p15m30_70 : decode prog_15_method_30_code 70 = .ok (.iconst (-1), 1) := by decide +kernel
theorem d_p15m30_71 : decode prog_15_method_30_code 71 = .ok (.ireturn, 1) := by decide +kernel
theorem d_p15m30_72 : decode prog_15_method_30_code 72 = .ok (.iconst 3, 1) := by decide +kernel
theorem d_p15m30_73 : decode prog_15_method_30_code 73 = .ok (.istore_n 3, 1) := by decide +kernel
theorem d_p15m30_74 : decode prog_15_method_30_code 74 = .ok (.iload_n 3, 1) := by decide +kernel
theorem d_p15m30_75 : decode prog_15_method_30_code 75 = .ok (.iload_n 1, 1) := by decide +kernel
theorem d_p15m30_76 : decode prog_15_method_30_code 76 = .ok (.if_icmp .ge 19, 3) := by decide +kernel
theorem d_p15m30_79 : decode prog_15_method_30_code 79 = .ok (.aload_n 0, 1) := by decide +kernel
theorem d_p15m30_80 : decode prog_15_method_30_code 80 = .ok (.iload_n 3, 1) := by decide +kernel
theorem d_p15m30_81 : decode prog_15_method_30_code 81 = .ok (.invokevirtual 233, 3) := by decide +kernel
theorem d_p15m30_84 : decode prog_15_method_30_code 84 = .ok (.ifCond .ne 5, 3) := by decide +kernel
theorem d_p15m30_87 : decode prog_15_method_30_code 87 = .ok (.iconst (-1), 1) := by decide +kernel
theorem d_p15m30_88 : decode prog_15_method_30_code 88 = .ok (.ireturn, 1) := by decide +kernel
theorem d_p15m30_89 : decode prog_15_method_30_code 89 = .ok (.iinc 3 1, 3) := by decide +kernel
theorem d_p15m30_92 : decode prog_15_method_30_code 92 = .ok (.goto (-18), 3) := by decide +kernel
theorem d_p15m30_95 : decode prog_15_method_30_code 95 = .ok (.iconst 3, 1) := by decide +kernel
theorem d_p15m30_96 : decode prog_15_method_30_code 96 = .ok (.istore_n 3, 1) := by decide +kernel
theorem d_p15m30_97 : decode prog_15_method_30_code 97 = .ok (.iload_n 3, 1) := by decide +kernel
theorem d_p15m30_98 : decode prog_15_method_30_code 98 = .ok (.iload_n 1, 1) := by decide +kernel
theorem d_p15m30_99 : decode prog_15_method_30_code 99 = .ok (.if_icmp .ge 20, 3) := by decide +kernel
theorem d_p15m30_102 : decode prog_15_method_30_code 102 = .ok (.aload_n 0, 1) := by decide +kernel
theorem d_p15m30_103 : decode prog_15_method_30_code 103 = .ok (.iload_n 3, 1) := by decide +kernel
theorem d_p15m30_104 : decode prog_15_method_30_code 104 = .ok (.invokevirtual 236, 3) := by decide +kernel
theorem d_p15m30_107 : decode prog_15_method_30_code 107 = .ok (.ifCond .ge 6, 3) := by decide +kernel
theorem d_p15m30_110 : decode prog_15_method_30_code 110 = .ok (.bipush (-2), 2) := by decide +kernel
theorem d_p15m30_112 : decode prog_15_method_30_code 112 = .ok (.ireturn, 1) := by decide +kernel
theorem d_p15m30_113 : decode prog_15_method_30_code 113 = .ok (.iinc 3 1, 3) := by decide +kernel
theorem d_p15m30_116 : decode prog_15_method_30_code 116 = .ok (.goto (-19), 3) := by decide +kernel
theorem d_p15m30_119 : decode prog_15_method_30_code 119 = .ok (.aload_n 0, 1) := by decide +kernel
theorem d_p15m30_120 : decode prog_15_method_30_code 120 = .ok (.iconst 1, 1) := by decide +kernel
theorem d_p15m30_121 : decode prog_15_method_30_code 121 = .ok (.invokevirtual 236, 3) := by decide +kernel
theorem d_p15m30_124 : decode prog_15_method_30_code 124 = .ok (.ifCond .lt 6, 3) := by decide +kernel
theorem d_p15m30_127 : decode prog_15_method_30_code 127 = .ok (.bipush (-3), 2) := by decide +kernel
theorem d_p15m30_129 : decode prog_15_method_30_code 129 = .ok (.ireturn, 1) := by decide +kernel
theorem d_p15m30_130 : decode prog_15_method_30_code 130 = .ok (.iload_n 2, 1) := by decide +kernel
theorem d_p15m30_131 : decode prog_15_method_30_code 131 = .ok (.ifCond .ne 16, 3) := by decide +kernel
theorem d_p15m30_134 : decode prog_15_method_30_code 134 = .ok (.iload_n 1, 1) := by decide +kernel
theorem d_p15m30_135 : decode prog_15_method_30_code 135 = .ok (.iconst 3, 1) := by decide +kernel
theorem d_p15m30_136 : decode prog_15_method_30_code 136 = .ok (.if_icmp .le 11, 3) := by decide +kernel
theorem d_p15m30_139 : decode prog_15_method_30_code 139 = .ok (.aload_n 0, 1) := by decide +kernel
theorem d_p15m30_140 : decode prog_15_method_30_code 140 = .ok (.iconst 3, 1) := by decide +kernel
theorem d_p15m30_141 : decode prog_15_method_30_code 141 = .ok (.invokevirtual 236, 3) := by decide +kernel
theorem d_p15m30_144 : decode prog_15_method_30_code 144 = .ok (.goto 4, 3) := by decide +kernel
theorem d_p15m30_147 : decode prog_15_method_30_code 147 = .ok (.iconst 0, 1) := by decide +kernel
theorem d_p15m30_148 : decode prog_15_method_30_code 148 = .ok (.istore_n 3, 1) := by decide +kernel
theorem d_p15m30_149 : decode prog_15_method_30_code 149 = .ok (.iload_n 2, 1) := by decide +kernel
theorem d_p15m30_150 : decode prog_15_method_30_code 150 = .ok (.ifCond .eq 7, 3) := by decide +kernel
theorem d_p15m30_153 : decode prog_15_method_30_code 153 = .ok (.iconst 3, 1) := by decide +kernel
theorem d_p15m30_154 : decode prog_15_method_30_code 154 = .ok (.goto 4, 3) := by decide +kernel
theorem d_p15m30_157 : decode prog_15_method_30_code 157 = .ok (.iconst 4, 1) := by decide +kernel
theorem d_p15m30_158 : decode prog_15_method_30_code 158 = .ok (.istore 4, 2) := by decide +kernel
theorem d_p15m30_160 : decode prog_15_method_30_code 160 = .ok (.iload_n 1, 1) := by decide +kernel
theorem d_p15m30_161 : decode prog_15_method_30_code 161 = .ok (.iload 4, 2) := by decide +kernel
theorem d_p15m30_163 : decode prog_15_method_30_code 163 = .ok (.if_icmp .le 10, 3) := by decide +kernel
theorem d_p15m30_166 : decode prog_15_method_30_code 166 = .ok (.iload_n 1, 1) := by decide +kernel
theorem d_p15m30_167 : decode prog_15_method_30_code 167 = .ok (.iload 4, 2) := by decide +kernel
theorem d_p15m30_169 : decode prog_15_method_30_code 169 = .ok (.isub, 1) := by decide +kernel
theorem d_p15m30_170 : decode prog_15_method_30_code 170 = .ok (.goto 4, 3) := by decide +kernel
theorem d_p15m30_173 : decode prog_15_method_30_code 173 = .ok (.iconst 0, 1) := by decide +kernel
theorem d_p15m30_174 : decode prog_15_method_30_code 174 = .ok (.istore 5, 2) := by decide +kernel
theorem d_p15m30_176 : decode prog_15_method_30_code 176 = .ok (.aload_n 0, 1) := by decide +kernel
theorem d_p15m30_177 : decode prog_15_method_30_code 177 = .ok (.getfield 34, 3) := by decide +kernel
theorem d_p15m30_180 : decode prog_15_method_30_code 180 = .ok (.iload_n 3, 1) := by decide +kernel
theorem d_p15m30_181 : decode prog_15_method_30_code 181 = .ok (.baload, 1) := by decide +kernel
theorem d_p15m30_182 : decode prog_15_method_30_code 182 = .ok (.ifCond .eq 6, 3) := by decide +kernel
theorem d_p15m30_185 : decode prog_15_method_30_code 185 = .ok (.bipush (-4), 2) := by decide +kernel
theorem d_p15m30_187 : decode prog_15_method_30_code 187 = .ok (.ireturn, 1) := by decide +kernel
theorem d_p15m30_188 : decode prog_15_method_30_code 188 = .ok (.iload 4, 2) := by decide +kernel
theorem d_p15m30_190 : decode prog_15_method_30_code 190 = .ok (.istore 6, 2) := by decide +kernel
theorem d_p15m30_192 : decode prog_15_method_30_code 192 = .ok (.iload 6, 2) := by decide +kernel
theorem d_p15m30_194 : decode prog_15_method_30_code 194 = .ok (.iload_n 1, 1) := by decide +kernel
theorem d_p15m30_195 : decode prog_15_method_30_code 195 = .ok (.if_icmp .ge 26, 3) := by decide +kernel
theorem d_p15m30_198 : decode prog_15_method_30_code 198 = .ok (.aload_n 0, 1) := by decide +kernel
theorem d_p15m30_199 : decode prog_15_method_30_code 199 = .ok (.getfield 34, 3) := by decide +kernel
theorem d_p15m30_202 : decode prog_15_method_30_code 202 = .ok (.aload_n 0, 1) := by decide +kernel
theorem d_p15m30_203 : decode prog_15_method_30_code 203 = .ok (.iload 6, 2) := by decide +kernel
theorem d_p15m30_205 : decode prog_15_method_30_code 205 = .ok (.invokevirtual 236, 3) := by decide +kernel
theorem d_p15m30_208 : decode prog_15_method_30_code 208 = .ok (.baload, 1) := by decide +kernel
theorem d_p15m30_209 : decode prog_15_method_30_code 209 = .ok (.ifCond .ne 6, 3) := by decide +kernel
theorem d_p15m30_212 : decode prog_15_method_30_code 212 = .ok (.bipush (-4), 2) := by decide +kernel
theorem d_p15m30_214 : decode prog_15_method_30_code 214 = .ok (.ireturn, 1) := by decide +kernel
theorem d_p15m30_215 : decode prog_15_method_30_code 215 = .ok (.iinc 6 1, 3) := by decide +kernel
theorem d_p15m30_218 : decode prog_15_method_30_code 218 = .ok (.goto (-26), 3) := by decide +kernel
theorem d_p15m30_221 : decode prog_15_method_30_code 221 = .ok (.iload 5, 2) := by decide +kernel
theorem d_p15m30_223 : decode prog_15_method_30_code 223 = .ok (.iconst 2, 1) := by decide +kernel
theorem d_p15m30_224 : decode prog_15_method_30_code 224 = .ok (.if_icmp .ne 23, 3) := by decide +kernel
theorem d_p15m30_227 : decode prog_15_method_30_code 227 = .ok (.aload_n 0, 1) := by decide +kernel
theorem d_p15m30_228 : decode prog_15_method_30_code 228 = .ok (.iload 4, 2) := by decide +kernel
theorem d_p15m30_230 : decode prog_15_method_30_code 230 = .ok (.invokevirtual 236, 3) := by decide +kernel
theorem d_p15m30_233 : decode prog_15_method_30_code 233 = .ok (.aload_n 0, 1) := by decide +kernel
theorem d_p15m30_234 : decode prog_15_method_30_code 234 = .ok (.iload 4, 2) := by decide +kernel
theorem d_p15m30_236 : decode prog_15_method_30_code 236 = .ok (.iconst 1, 1) := by decide +kernel
theorem d_p15m30_237 : decode prog_15_method_30_code 237 = .ok (.iadd, 1) := by decide +kernel
theorem d_p15m30_238 : decode prog_15_method_30_code 238 = .ok (.invokevirtual 236, 3) := by decide +kernel
theorem d_p15m30_241 : decode prog_15_method_30_code 241 = .ok (.if_icmp .ne 6, 3) := by decide +kernel
theorem d_p15m30_244 : decode prog_15_method_30_code 244 = .ok (.bipush (-4), 2) := by decide +kernel
theorem d_p15m30_246 : decode prog_15_method_30_code 246 = .ok (.ireturn, 1) := by decide +kernel
theorem d_p15m30_247 : decode prog_15_method_30_code 247 = .ok (.aload_n 0, 1) := by decide +kernel
theorem d_p15m30_248 : decode prog_15_method_30_code 248 = .ok (.getfield 38, 3) := by decide +kernel
theorem d_p15m30_251 : decode prog_15_method_30_code 251 = .ok (.bipush 14, 2) := by decide +kernel
theorem d_p15m30_253 : decode prog_15_method_30_code 253 = .ok (.if_icmp .ne 6, 3) := by decide +kernel
theorem d_p15m30_256 : decode prog_15_method_30_code 256 = .ok (.bipush (-5), 2) := by decide +kernel
theorem d_p15m30_258 : decode prog_15_method_30_code 258 = .ok (.ireturn, 1) := by decide +kernel
theorem d_p15m30_259 : decode prog_15_method_30_code 259 = .ok (.aload_n 0, 1) := by decide +kernel
theorem d_p15m30_260 : decode prog_15_method_30_code 260 = .ok (.getfield 38, 3) := by decide +kernel
theorem d_p15m30_263 : decode prog_15_method_30_code 263 = .ok (.istore 6, 2) := by decide +kernel
theorem d_p15m30_265 : decode prog_15_method_30_code 265 = .ok (.iconst 0, 1) := by decide +kernel
theorem d_p15m30_266 : decode prog_15_method_30_code 266 = .ok (.istore 7, 2) := by decide +kernel
theorem d_p15m30_268 : decode prog_15_method_30_code 268 = .ok (.iload 7, 2) := by decide +kernel
theorem d_p15m30_270 : decode prog_15_method_30_code 270 = .ok (.iload 5, 2) := by decide +kernel
theorem d_p15m30_272 : decode prog_15_method_30_code 272 = .ok (.if_icmp .ge 30, 3) := by decide +kernel
theorem d_p15m30_275 : decode prog_15_method_30_code 275 = .ok (.aload_n 0, 1) := by decide +kernel
theorem d_p15m30_276 : decode prog_15_method_30_code 276 = .ok (.getfield 28, 3) := by decide +kernel
theorem d_p15m30_279 : decode prog_15_method_30_code 279 = .ok (.iconst 2, 1) := by decide +kernel
theorem d_p15m30_280 : decode prog_15_method_30_code 280 = .ok (.iload 6, 2) := by decide +kernel
theorem d_p15m30_282 : decode prog_15_method_30_code 282 = .ok (.imul, 1) := by decide +kernel
theorem d_p15m30_283 : decode prog_15_method_30_code 283 = .ok (.iload 7, 2) := by decide +kernel
theorem d_p15m30_285 : decode prog_15_method_30_code 285 = .ok (.iadd, 1) := by decide +kernel
theorem d_p15m30_286 : decode prog_15_method_30_code 286 = .ok (.aload_n 0, 1) := by decide +kernel
theorem d_p15m30_287 : decode prog_15_method_30_code 287 = .ok (.iload 4, 2) := by decide +kernel
theorem d_p15m30_289 : decode prog_15_method_30_code 289 = .ok (.iload 7, 2) := by decide +kernel
theorem d_p15m30_291 : decode prog_15_method_30_code 291 = .ok (.iadd, 1) := by decide +kernel
theorem d_p15m30_292 : decode prog_15_method_30_code 292 = .ok (.invokevirtual 236, 3) := by decide +kernel
theorem d_p15m30_295 : decode prog_15_method_30_code 295 = .ok (.iastore, 1) := by decide +kernel
theorem d_p15m30_296 : decode prog_15_method_30_code 296 = .ok (.iinc 7 1, 3) := by decide +kernel
theorem d_p15m30_299 : decode prog_15_method_30_code 299 = .ok (.goto (-31), 3) := by decide +kernel
theorem d_p15m30_302 : decode prog_15_method_30_code 302 = .ok (.aload_n 0, 1) := by decide +kernel
theorem d_p15m30_303 : decode prog_15_method_30_code 303 = .ok (.getfield 31, 3) := by decide +kernel
theorem d_p15m30_306 : decode prog_15_method_30_code 306 = .ok (.iload 6, 2) := by decide +kernel
theorem d_p15m30_308 : decode prog_15_method_30_code 308 = .ok (.iload 5, 2) := by decide +kernel
theorem d_p15m30_310 : decode prog_15_method_30_code 310 = .ok (.iastore, 1) := by decide +kernel
theorem d_p15m30_311 : decode prog_15_method_30_code 311 = .ok (.aload_n 0, 1) := by decide +kernel
theorem d_p15m30_312 : decode prog_15_method_30_code 312 = .ok (.getfield 25, 3) := by decide +kernel
theorem d_p15m30_315 : decode prog_15_method_30_code 315 = .ok (.iload 6, 2) := by decide +kernel
theorem d_p15m30_317 : decode prog_15_method_30_code 317 = .ok (.iload_n 3, 1) := by decide +kernel
theorem d_p15m30_318 : decode prog_15_method_30_code 318 = .ok (.iastore, 1) := by decide +kernel
theorem d_p15m30_319 : decode prog_15_method_30_code 319 = .ok (.aload_n 0, 1) := by decide +kernel
theorem d_p15m30_320 : decode prog_15_method_30_code 320 = .ok (.getfield 34, 3) := by decide +kernel
theorem d_p15m30_323 : decode prog_15_method_30_code 323 = .ok (.iload 6, 2) := by decide +kernel
theorem d_p15m30_325 : decode prog_15_method_30_code 325 = .ok (.iload_n 2, 1) := by decide +kernel
theorem d_p15m30_326 : decode prog_15_method_30_code 326 = .ok (.bastore, 1) := by decide +kernel
theorem d_p15m30_327 : decode prog_15_method_30_code 327 = .ok (.aload_n 0, 1) := by decide +kernel
theorem d_p15m30_328 : decode prog_15_method_30_code 328 = .ok (.getfield 22, 3) := by decide +kernel
theorem d_p15m30_331 : decode prog_15_method_30_code 331 = .ok (.iload 6, 2) := by decide +kernel
theorem d_p15m30_333 : decode prog_15_method_30_code 333 = .ok (.aload_n 0, 1) := by decide +kernel
theorem d_p15m30_334 : decode prog_15_method_30_code 334 = .ok (.getfield 16, 3) := by decide +kernel
theorem d_p15m30_337 : decode prog_15_method_30_code 337 = .ok (.iconst 1, 1) := by decide +kernel
theorem d_p15m30_338 : decode prog_15_method_30_code 338 = .ok (.iaload, 1) := by decide +kernel
theorem d_p15m30_339 : decode prog_15_method_30_code 339 = .ok (.aload_n 0, 1) := by decide +kernel
theorem d_p15m30_340 : decode prog_15_method_30_code 340 = .ok (.getfield 13, 3) := by decide +kernel
theorem d_p15m30_343 : decode prog_15_method_30_code 343 = .ok (.iconst 1, 1) := by decide +kernel
theorem d_p15m30_344 : decode prog_15_method_30_code 344 = .ok (.iaload, 1) := by decide +kernel
theorem d_p15m30_345 : decode prog_15_method_30_code 345 = .ok (.isub, 1) := by decide +kernel
theorem d_p15m30_346 : decode prog_15_method_30_code 346 = .ok (.iastore, 1) := by decide +kernel
theorem d_p15m30_347 : decode prog_15_method_30_code 347 = .ok (.iconst 0, 1) := by decide +kernel
theorem d_p15m30_348 : decode prog_15_method_30_code 348 = .ok (.istore 7, 2) := by decide +kernel
theorem d_p15m30_350 : decode prog_15_method_30_code 350 = .ok (.iload 7, 2) := by decide +kernel
theorem d_p15m30_352 : decode prog_15_method_30_code 352 = .ok (.aload_n 0, 1) := by decide +kernel
theorem d_p15m30_353 : decode prog_15_method_30_code 353 = .ok (.getfield 22, 3) := by decide +kernel
theorem d_p15m30_356 : decode prog_15_method_30_code 356 = .ok (.iload 6, 2) := by decide +kernel
theorem d_p15m30_358 : decode prog_15_method_30_code 358 = .ok (.iaload, 1) := by decide +kernel
theorem d_p15m30_359 : decode prog_15_method_30_code 359 = .ok (.if_icmp .ge 36, 3) := by decide +kernel
theorem d_p15m30_362 : decode prog_15_method_30_code 362 = .ok (.aload_n 0, 1) := by decide +kernel
theorem d_p15m30_363 : decode prog_15_method_30_code 363 = .ok (.getfield 19, 3) := by decide +kernel
theorem d_p15m30_366 : decode prog_15_method_30_code 366 = .ok (.bipush 24, 2) := by decide +kernel
theorem d_p15m30_368 : decode prog_15_method_30_code 368 = .ok (.iload 6, 2) := by decide +kernel
theorem d_p15m30_370 : decode prog_15_method_30_code 370 = .ok (.imul, 1) := by decide +kernel
theorem d_p15m30_371 : decode prog_15_method_30_code 371 = .ok (.iload 7, 2) := by decide +kernel
theorem d_p15m30_373 : decode prog_15_method_30_code 373 = .ok (.iadd, 1) := by decide +kernel
theorem d_p15m30_374 : decode prog_15_method_30_code 374 = .ok (.aload_n 0, 1) := by decide +kernel
theorem d_p15m30_375 : decode prog_15_method_30_code 375 = .ok (.getfield 7, 3) := by decide +kernel
theorem d_p15m30_378 : decode prog_15_method_30_code 378 = .ok (.aload_n 0, 1) := by decide +kernel
theorem d_p15m30_379 : decode prog_15_method_30_code 379 = .ok (.getfield 13, 3) := by decide +kernel
theorem d_p15m30_382 : decode prog_15_method_30_code 382 = .ok (.iconst 1, 1) := by decide +kernel
theorem d_p15m30_383 : decode prog_15_method_30_code 383 = .ok (.iaload, 1) := by decide +kernel
theorem d_p15m30_384 : decode prog_15_method_30_code 384 = .ok (.iload 7, 2) := by decide +kernel
theorem d_p15m30_386 : decode prog_15_method_30_code 386 = .ok (.iadd, 1) := by decide +kernel
theorem d_p15m30_387 : decode prog_15_method_30_code 387 = .ok (.iaload, 1) := by decide +kernel
theorem d_p15m30_388 : decode prog_15_method_30_code 388 = .ok (.iastore, 1) := by decide +kernel
theorem d_p15m30_389 : decode prog_15_method_30_code 389 = .ok (.iinc 7 1, 3) := by decide +kernel
theorem d_p15m30_392 : decode prog_15_method_30_code 392 = .ok (.goto (-42), 3) := by decide +kernel
theorem d_p15m30_395 : decode prog_15_method_30_code 395 = .ok (.aload_n 0, 1) := by decide +kernel
theorem d_p15m30_396 : decode prog_15_method_30_code 396 = .ok (.dup, 1) := by decide +kernel
theorem d_p15m30_397 : decode prog_15_method_30_code 397 = .ok (.getfield 38, 3) := by decide +kernel
theorem d_p15m30_400 : decode prog_15_method_30_code 400 = .ok (.iconst 1, 1) := by decide +kernel
theorem d_p15m30_401 : decode prog_15_method_30_code 401 = .ok (.iadd, 1) := by decide +kernel
theorem d_p15m30_402 : decode prog_15_method_30_code 402 = .ok (.putfield 38, 3) := by decide +kernel
theorem d_p15m30_405 : decode prog_15_method_30_code 405 = .ok (.iload 6, 2) := by decide +kernel
theorem d_p15m30_407 : decode prog_15_method_30_code 407 = .ok (.ireturn, 1) := by decide +kernel
abbrev y_Mod_declareC : MethodName := ⟨"PolicyDeskModel", "declare", "(IZ)I"⟩
theorem ok_Mod_declareC : pd_ok y_Mod_declareC prog_15_method_30_code 8 (some .int) 2 := ⟨mT_1304, mT_21, by decide, by decide +kernel⟩
abbrev rm_Mod_declareC : Room := { frames := 5, cells := 0, slots := 0, locals := 109 }
set_option maxHeartbeats 4000000 in
set_option maxRecDepth 100000 in
theorem lp_Mod_declareC_350 (l : Launch) (G : pd_G) (h : pd_H) {y : Nat} {ad : Nat → Nat} {fv : Nat → Nat → Int32} {iv : Nat → Int32} {tl : Int64} {cs : List Nat} {n : Nat} {R : Nat → pd_cr} {nw : Nat} {sA eA : Nat → Nat} (hMO : pd_MO G h y ad fv iv tl) (hL : gm_L fv iv cs) (hC : gm_C fv iv n R) (hW : gm_W fv cs nw sA eA) (hcut : nw ≤ 6 → (gr_cut cs).1 = nw) (hwd : nw ≤ 6 → ∀ t, t < nw → tx_sub cs (sA t) (eA t) = gr_w cs t) (hgn : nw ≤ 6 → 2 ≤ nw → gm_name cs (sA 1) (eA 1) = eA 1 → gr_name (gr_w cs 1) = true) {p : Program} {e : Env} {s : State} {m : MethodId} {below : List Frame} {meth : Method} {c : Code} (X : pd_B p s m [.ref y, .int (nI nw), .int (nI 0)].toArray meth c G y_Mod_declareC.cls prog_15_method_30_code 8 (some .int)) (hmn : meth.name = y_Mod_declareC.name) :
    ∀ (kk9 : Nat) (ii : Nat) (uq : Nat) (mq : Nat) (fq : Nat) (o1 : Option Nat) (o2 : Option Nat) (fo6 : Nat → Int32) (fo9 : Nat → Int32) (hh : pd_H), (pd_kx [20, 36, 37, 38, 39, 40, 41] h hh) → (pd_MO G hh y ad (pd_fu (pd_fu (pd_fu (pd_fu (pd_fu (pd_fu fv 6 fo6) 7 (upd (fv 7) n (nI ((eA 1) - (sA 1))))) 8 (upd (fv 8) n (nI uq))) 9 fo9) 10 (upd (fv 10) n (nI mq))) 11 (upd (fv 11) n (nI 0))) (iv) tl) → ((2 ≤ nw ∧ ¬ nw = 3 ∧ nw ≤ 6) ∧ gm_name cs (sA 1) (eA 1) = eA 1 ∧ (3 < nw → eA 2 - sA 2 = 1 ∧ cs.getD (sA 2) 0 = 58) ∧ ∀ t, 3 ≤ t → t < nw → gm_name cs (sA t) (eA t) = eA t) → (gr_dc n R cs false 4 = gr_cadd n R (gr_row R n (gr_w cs 1) false (some uq) o1 o2)) → ((o1.toList ++ o2.toList).length = mq) → (∀ t, t < (o1.toList ++ o2.toList).length → fo9 (2 * n + t) = nI ((o1.toList ++ o2.toList).getD t 0)) → (∀ x, x < 2 * n → fo9 x = fv 9 x) → (o1 = none → o2 = none) → (n < 14) → (ii ≤ eA 1 - sA 1) → (∀ t, t < ii → fo6 (24 * n + t) = nI (cs.getD (sA 1 + t) 0)) → (∀ x, x < 24 * n → fo6 x = fv 6 x) → 100 - ii < kk9 → ∀ (H : Heap) (locs : List Loc), pd_w G s H locs hh → ∀ ls : Array Slot, lv_has ls 8 [(7, .int (nI ii)), (6, .int (nI n)), (5, .int (nI mq)), (4, .int (nI fq)), (3, .int (nI uq)), (0, .ref y), (1, .int (nI nw)), (2, .int (nI 0))] → W p l e rm_Mod_declareC s m [.ref y, .int (nI nw), .int (nI 0)].toArray below meth c H locs 0 0 (MQ below (pd_Q G Value.int (fun r h1 => (¬ ((2 ≤ nw ∧ ¬ nw = 3 ∧ nw ≤ 6) ∧ gm_name cs (sA 1) (eA 1) = eA 1 ∧ (3 < nw → eA 2 - sA 2 = 1 ∧ cs.getD (sA 2) 0 = 58) ∧ ∀ t, 3 ≤ t → t < nw → gm_name cs (sA t) (eA t) = eA t) ∧ r = -1 ∧ h = h1) ∨ (((2 ≤ nw ∧ ¬ nw = 3 ∧ nw ≤ 6) ∧ gm_name cs (sA 1) (eA 1) = eA 1 ∧ (3 < nw → eA 2 - sA 2 = 1 ∧ cs.getD (sA 2) 0 = 58) ∧ ∀ t, 3 ≤ t → t < nw → gm_name cs (sA t) (eA t) = eA t) ∧ r = (gr_dc n R cs false 4).1 ∧ pd_kx [20, 36, 37, 38, 39, 40, 41] h h1 ∧ ∃ fv2 iv2, pd_MO G h1 y ad fv2 iv2 tl ∧ gm_fr [6, 7, 8, 9, 10, 11] [12] fv iv fv2 iv2 ∧ gm_C fv2 iv2 (gr_dc n R cs false 4).2.1 (gr_dc n R cs false 4).2.2))) [.ref y, .int (nI nw), .int (nI 0)].toArray s rm_Mod_declareC.cells rm_Mod_declareC.slots (fun q => G.2.1 ≤ q)) (F0 m 350 ls []) := by
  have hx := X.1
  have hb := X.2.1
  have hz_y := hMO.2.1
  have hy0 : h y = some (20, .inr (10, [.ref (ad 0), .ref (ad 1), .ref (ad 2), .int (iv 3), .int (iv 4), .int (iv 5), .ref (ad 6), .ref (ad 7), .ref (ad 8), .ref (ad 9), .ref (ad 10), .ref (ad 11), .int (iv 12), .ref (ad 13), .ref (ad 14), .ref (ad 15), .ref (ad 16), .ref (ad 17), .ref (ad 18), .ref (ad 19), .int (iv 20), .ref (ad 21), .ref (ad 22), .ref (ad 23), .ref (ad 24), .ref (ad 25), .ref (ad 26), .ref (ad 27), .ref (ad 28), .int (iv 29), .ref (ad 30), .ref (ad 31), .int (iv 32), .int (iv 33), .int (iv 34), .int (iv 35), .long tl, .int (iv 37), .int (iv 38), .int (iv 39), .int (iv 40), .ref (ad 41), .ref (ad 42), .int (iv 43)])) := hMO.1
  have ha0 : h (ad 0) = some (30, .inl (.int, 60, .inl (fv 0))) := (hMO.2.2 0 (by decide)).1
  have ha1 : h (ad 1) = some (31, .inl (.int, 40, .inl (fv 1))) := (hMO.2.2 1 (by decide)).1
  have ha2 : h (ad 2) = some (32, .inl (.int, 40, .inl (fv 2))) := (hMO.2.2 2 (by decide)).1
  have ha6 : h (ad 6) = some (36, .inl (.int, 336, .inl (fv 6))) := (hMO.2.2 6 (by decide)).1
  have ha7 : h (ad 7) = some (37, .inl (.int, 14, .inl (fv 7))) := (hMO.2.2 7 (by decide)).1
  have ha8 : h (ad 8) = some (38, .inl (.int, 14, .inl (fv 8))) := (hMO.2.2 8 (by decide)).1
  have ha9 : h (ad 9) = some (39, .inl (.int, 28, .inl (fv 9))) := (hMO.2.2 9 (by decide)).1
  have ha10 : h (ad 10) = some (40, .inl (.int, 14, .inl (fv 10))) := (hMO.2.2 10 (by decide)).1
  have ha11 : h (ad 11) = some (41, .inl (.boolean, 14, .inl (fv 11))) := (hMO.2.2 11 (by decide)).1
  obtain ⟨hiv3, hln, hl60, hlc⟩ := id hL
  obtain ⟨hiv12, hn2, hn14, hCc⟩ := id hC
  have hw31 := hW.1
  intro kk9
  induction kk9 with
  | zero => intros; omega
  | succ kk9 ih =>
    intro ii uq mq fq o1 o2 fo6 fo9 hh hk2 hMO2 hcd hdc hmq h9a hk9 h12 hn9 hi hf6 hk6 hmu H locs w ls hl
    have hz_y := hMO2.2.1
    have hy2 : hh y = some (20, .inr (10, [.ref (ad 0), .ref (ad 1), .ref (ad 2), .int (iv 3), .int (iv 4), .int (iv 5), .ref (ad 6), .ref (ad 7), .ref (ad 8), .ref (ad 9), .ref (ad 10), .ref (ad 11), .int (iv 12), .ref (ad 13), .ref (ad 14), .ref (ad 15), .ref (ad 16), .ref (ad 17), .ref (ad 18), .ref (ad 19), .int (iv 20), .ref (ad 21), .ref (ad 22), .ref (ad 23), .ref (ad 24), .ref (ad 25), .ref (ad 26), .ref (ad 27), .ref (ad 28), .int (iv 29), .ref (ad 30), .ref (ad 31), .int (iv 32), .int (iv 33), .int (iv 34), .int (iv 35), .long tl, .int (iv 37), .int (iv 38), .int (iv 39), .int (iv 40), .ref (ad 41), .ref (ad 42), .int (iv 43)])) := hMO2.1
    have ha0 : hh (ad 0) = some (30, .inl (.int, 60, .inl (fv 0))) := (hMO2.2.2 0 (by decide)).1
    have ha1 : hh (ad 1) = some (31, .inl (.int, 40, .inl (fv 1))) := (hMO2.2.2 1 (by decide)).1
    have ha2 : hh (ad 2) = some (32, .inl (.int, 40, .inl (fv 2))) := (hMO2.2.2 2 (by decide)).1
    have ha6 : hh (ad 6) = some (36, .inl (.int, 336, .inl (fo6))) := (hMO2.2.2 6 (by decide)).1
    have ha7 : hh (ad 7) = some (37, .inl (.int, 14, .inl (upd (fv 7) n (nI ((eA 1) - (sA 1)))))) := (hMO2.2.2 7 (by decide)).1
    have ha8 : hh (ad 8) = some (38, .inl (.int, 14, .inl (upd (fv 8) n (nI uq)))) := (hMO2.2.2 8 (by decide)).1
    have ha9 : hh (ad 9) = some (39, .inl (.int, 28, .inl (fo9))) := (hMO2.2.2 9 (by decide)).1
    have ha10 : hh (ad 10) = some (40, .inl (.int, 14, .inl (upd (fv 10) n (nI mq)))) := (hMO2.2.2 10 (by decide)).1
    have ha11 : hh (ad 11) = some (41, .inl (.boolean, 14, .inl (upd (fv 11) n (nI 0)))) := (hMO2.2.2 11 (by decide)).1
    have hcd1 := hcd.1
    have hwl1 := (hW.2 1 (by omega)).2.2
    have hwk1 := hwd (by omega) 1 (by omega)
    have hgn1 := hgn (by omega) (by omega) hcd.2.1
    have hl24 := gm_name24 hgn1
    have hl25 := hl24
    rw [← hwk1, tx_sub_len (by omega)] at hl25
    refine lv_iload hx hb d_p15m30_350 (lv_at hl 0 rfl) ?_
    refine lv_aload_n hx hb d_p15m30_352 rfl (lv_at hl 5 rfl) ?_
    refine pd_get X w hy2 rfl 7 (by decide) mT_1146 rfl rfl d_p15m30_353 ?_
    refine lv_iload hx hb d_p15m30_356 (lv_at hl 1 rfl) ?_
    refine pd_iald X w ha7 (by omega) (by omega) d_p15m30_358 ?_
    refine pd_top (v' := .int (nI ((eA 1) - (sA 1)))) (by rw [pk_us]) ?_
    refine pd_jge (tgt := 395) hx hb d_p15m30_359 (by decide) (by omega) (by omega) (fun q1 => ?_) (fun q1 => ?_)
    · -- taken: 395
      refine lv_aload_n hx hb d_p15m30_395 rfl (lv_at hl 5 rfl) ?_
      refine lv_dup hx hb d_p15m30_396 rfl ?_
      refine pd_get X w hy2 rfl 12 (by decide) mT_1151 rfl rfl d_p15m30_397 ?_
      refine pd_top (v' := .int (nI n)) (congrArg Value.int hiv12) ?_
      refine lv_iconst (v := nI 1) hx hb d_p15m30_400 (by decide) ?_
      refine pd_iadd hx hb d_p15m30_401 ?_
      refine pd_put (ty := .int) X w hy2 hz_y rfl 12 (by decide) mT_1151 rfl rfl (by decide +kernel) rfl rfl (Nat.le_of_ble_eq_true rfl) d_p15m30_402 (fun H locs w => ?_)
      have w : pd_w G s H locs (pd_up hh y (20, .inr (10, [.ref (ad 0), .ref (ad 1), .ref (ad 2), .int (iv 3), .int (iv 4), .int (iv 5), .ref (ad 6), .ref (ad 7), .ref (ad 8), .ref (ad 9), .ref (ad 10), .ref (ad 11), .int (nI (n + 1)), .ref (ad 13), .ref (ad 14), .ref (ad 15), .ref (ad 16), .ref (ad 17), .ref (ad 18), .ref (ad 19), .int (iv 20), .ref (ad 21), .ref (ad 22), .ref (ad 23), .ref (ad 24), .ref (ad 25), .ref (ad 26), .ref (ad 27), .ref (ad 28), .int (iv 29), .ref (ad 30), .ref (ad 31), .int (iv 32), .int (iv 33), .int (iv 34), .int (iv 35), .long tl, .int (iv 37), .int (iv 38), .int (iv 39), .int (iv 40), .ref (ad 41), .ref (ad 42), .int (iv 43)]))) := w
      obtain ⟨h2, u5⟩ : ∃ z, z = pd_up hh y (20, .inr (10, [.ref (ad 0), .ref (ad 1), .ref (ad 2), .int (iv 3), .int (iv 4), .int (iv 5), .ref (ad 6), .ref (ad 7), .ref (ad 8), .ref (ad 9), .ref (ad 10), .ref (ad 11), .int (nI (n + 1)), .ref (ad 13), .ref (ad 14), .ref (ad 15), .ref (ad 16), .ref (ad 17), .ref (ad 18), .ref (ad 19), .int (iv 20), .ref (ad 21), .ref (ad 22), .ref (ad 23), .ref (ad 24), .ref (ad 25), .ref (ad 26), .ref (ad 27), .ref (ad 28), .int (iv 29), .ref (ad 30), .ref (ad 31), .int (iv 32), .int (iv 33), .int (iv 34), .int (iv 35), .long tl, .int (iv 37), .int (iv 38), .int (iv 39), .int (iv 40), .ref (ad 41), .ref (ad 42), .int (iv 43)])) := ⟨_, rfl⟩
      rw [← u5] at w
      have k3 : pd_kq y hh h2 := by rw [u5]; exact pd_up_kq
      have f4 : h2 y = some (20, .inr (10, [.ref (ad 0), .ref (ad 1), .ref (ad 2), .int (iv 3), .int (iv 4), .int (iv 5), .ref (ad 6), .ref (ad 7), .ref (ad 8), .ref (ad 9), .ref (ad 10), .ref (ad 11), .int (nI (n + 1)), .ref (ad 13), .ref (ad 14), .ref (ad 15), .ref (ad 16), .ref (ad 17), .ref (ad 18), .ref (ad 19), .int (iv 20), .ref (ad 21), .ref (ad 22), .ref (ad 23), .ref (ad 24), .ref (ad 25), .ref (ad 26), .ref (ad 27), .ref (ad 28), .int (iv 29), .ref (ad 30), .ref (ad 31), .int (iv 32), .int (iv 33), .int (iv 34), .int (iv 35), .long tl, .int (iv 37), .int (iv 38), .int (iv 39), .int (iv 40), .ref (ad 41), .ref (ad 42), .int (iv 43)])) := by rw [u5]; exact pd_up_s _ _ _
      have f6 := k3 _ _ (pd_ne ha0 hy2 (by simp)) ha0
      have f7 := k3 _ _ (pd_ne ha1 hy2 (by simp)) ha1
      have f8 := k3 _ _ (pd_ne ha2 hy2 (by simp)) ha2
      have f9 := k3 _ _ (pd_ne ha6 hy2 (by simp)) ha6
      have f10 := k3 _ _ (pd_ne ha7 hy2 (by simp)) ha7
      have f11 := k3 _ _ (pd_ne ha8 hy2 (by simp)) ha8
      have f12 := k3 _ _ (pd_ne ha9 hy2 (by simp)) ha9
      have f13 := k3 _ _ (pd_ne ha10 hy2 (by simp)) ha10
      have f14 := k3 _ _ (pd_ne ha11 hy2 (by simp)) ha11
      refine lv_iload hx hb d_p15m30_405 (lv_at hl 1 rfl) ?_
      have hg : gr_dc n R cs false 4 = (nI n, n + 1, pd_fu R n (gr_row R n (gr_w cs 1) false (some uq) o1 o2)) := hdc.trans (gr_cadd_y hn9)
      have mo15 : pd_MO G h2 y ad (pd_fu (pd_fu (pd_fu (pd_fu (pd_fu (pd_fu fv 6 fo6) 7 (upd (fv 7) n (nI ((eA 1) - (sA 1))))) 8 (upd (fv 8) n (nI uq))) 9 fo9) 10 (upd (fv 10) n (nI mq))) 11 (upd (fv 11) n (nI 0))) (pd_fu iv 12 (nI (n + 1))) tl := pd_MO.of (ts := [20]) hMO2 (pd_kq.kx (k3) hy2) f4 (fun j hj => Or.inr ⟨fun z => by first | (simp at z; done) | (simp at z; omega), rfl⟩)
      exact pd_iret (v := (nI n)) X w (Or.inr ⟨hcd, by rw [hg], hk2.tr (pd_kx.mono (us := [20, 36, 37, 38, 39, 40, 41]) (pd_kq.kx (k3) hy2) (by simp)), _, _, mo15, ⟨fun j hj => by simp at hj; simp [pd_fu, hj], fun j hj => by simp at hj; simp [pd_fu, hj]⟩, (by rw [hg]; exact gm_C_add (row := gr_row R n (gr_w cs 1) false (some uq) o1 o2) hC hn9 rfl (by show _ = upd (fv 7) n (nI (gr_w cs 1).length); rw [← hwk1, tx_sub_len (by omega)]; rfl) hl24 (by show ∀ x ∈ gr_w cs 1, x < 256; rw [← hwk1]; exact tx_sub_lt hlc) (fun t ht => by have ht : t < (gr_w cs 1).length := ht; show fo6 _ = nI ((gr_w cs 1).getD t 0); rw [← hwk1, tx_sub_len (by omega)] at ht; rw [← hwk1, tx_sub_get ht]; exact hf6 t (by omega)) hk6 rfl rfl (by show upd (fv 10) n (nI mq) = upd (fv 10) n (nI (o1.toList ++ o2.toList).length); rw [hmq]) h9a hk9 h12 hgn1)⟩) (by decide) (by decide) d_p15m30_407
    · -- not taken: 362
      refine lv_aload_n hx hb d_p15m30_362 rfl (lv_at hl 5 rfl) ?_
      refine pd_get X w hy2 rfl 6 (by decide) mT_1145 rfl rfl d_p15m30_363 ?_
      refine lv_bipush (v := nI 24) hx hb d_p15m30_366 (by decide) ?_
      refine lv_iload hx hb d_p15m30_368 (lv_at hl 1 rfl) ?_
      refine pd_imul hx hb d_p15m30_370 ?_
      refine lv_iload hx hb d_p15m30_371 (lv_at hl 0 rfl) ?_
      refine pd_iadd hx hb d_p15m30_373 ?_
      refine lv_aload_n hx hb d_p15m30_374 rfl (lv_at hl 5 rfl) ?_
      refine pd_get X w hy2 rfl 0 (by decide) mT_1139 rfl rfl d_p15m30_375 ?_
      refine lv_aload_n hx hb d_p15m30_378 rfl (lv_at hl 5 rfl) ?_
      refine pd_get X w hy2 rfl 1 (by decide) mT_1140 rfl rfl d_p15m30_379 ?_
      refine lv_iconst (v := nI 1) hx hb d_p15m30_382 (by decide) ?_
      refine pd_iald X w ha1 (by omega) (by omega) d_p15m30_383 ?_
      refine pd_top (v' := .int (nI (sA 1))) (congrArg Value.int (hW.2 1 (by omega)).1) ?_
      refine lv_iload hx hb d_p15m30_384 (lv_at hl 0 rfl) ?_
      refine pd_iadd hx hb d_p15m30_386 ?_
      refine pd_iald X w ha0 (by omega) (by omega) d_p15m30_387 ?_
      refine pd_top (v' := .int (nI (cs.getD ((sA 1) + ii) 0))) (congrArg Value.int (hln _ (by omega))) ?_
      have := tx_lt hlc ((sA 1) + ii)
      refine pd_iast X w ha6 (hMO.2.2 6 (by decide)).2 (by omega) (by omega) d_p15m30_388 (fun H locs w => ?_)
      have w : pd_w G s H locs (pd_up hh (ad 6) (36, .inl (.int, 336, .inl (upd fo6 ((24 * n) + ii) (nI (cs.getD ((sA 1) + ii) 0)))))) := w
      obtain ⟨h16, u19⟩ : ∃ z, z = pd_up hh (ad 6) (36, .inl (.int, 336, .inl (upd fo6 ((24 * n) + ii) (nI (cs.getD ((sA 1) + ii) 0))))) := ⟨_, rfl⟩
      rw [← u19] at w
      have k17 : pd_kq (ad 6) hh h16 := by rw [u19]; exact pd_up_kq
      have f18 : h16 (ad 6) = some (36, .inl (.int, 336, .inl (upd fo6 ((24 * n) + ii) (nI (cs.getD ((sA 1) + ii) 0))))) := by rw [u19]; exact pd_up_s _ _ _
      have f20 := k17 _ _ (pd_ne hy2 ha6 (by simp)) hy2
      have f21 := k17 _ _ (pd_ne ha0 ha6 (by simp)) ha0
      have f22 := k17 _ _ (pd_ne ha1 ha6 (by simp)) ha1
      have f23 := k17 _ _ (pd_ne ha2 ha6 (by simp)) ha2
      have f24 := k17 _ _ (pd_ne ha7 ha6 (by simp)) ha7
      have f25 := k17 _ _ (pd_ne ha8 ha6 (by simp)) ha8
      have f26 := k17 _ _ (pd_ne ha9 ha6 (by simp)) ha9
      have f27 := k17 _ _ (pd_ne ha10 ha6 (by simp)) ha10
      have f28 := k17 _ _ (pd_ne ha11 ha6 (by simp)) ha11
      refine pd_iinc (k := 0) (d := 1) (lv' := [(7, .int (nI (ii + 1))), (6, .int (nI n)), (5, .int (nI mq)), (4, .int (nI fq)), (3, .int (nI uq)), (0, .ref y), (1, .int (nI nw)), (2, .int (nI 0))]) hx hb d_p15m30_389 (by decide) hl rfl (by decide) rfl (fun ls hl => ?_)
      refine lv_goto (tgt := 350) hx hb d_p15m30_392 (by decide) ?_
      have mo29 : pd_MO G h16 y ad (pd_fu (pd_fu (pd_fu (pd_fu (pd_fu (pd_fu (pd_fu fv 6 fo6) 7 (upd (fv 7) n (nI ((eA 1) - (sA 1))))) 8 (upd (fv 8) n (nI uq))) 9 fo9) 10 (upd (fv 10) n (nI mq))) 11 (upd (fv 11) n (nI 0))) 6 (upd fo6 ((24 * n) + ii) (nI (cs.getD ((sA 1) + ii) 0)))) iv tl := pd_MO.of (ts := [36]) hMO2 (pd_kq.kx (k17) ha6) f20 (fun j hj => if e6 : j = 6 then by subst e6; exact Or.inl f18 else Or.inr ⟨fun z => by first | (simp at z; done) | (simp at z; omega), by rw [pd_fu_n e6]⟩)
      exact ih (ii + 1) uq mq fq o1 o2 (upd fo6 ((24 * n) + ii) (nI (cs.getD ((sA 1) + ii) 0))) fo9 h16 (hk2.tr (pd_kx.mono (us := [20, 36, 37, 38, 39, 40, 41]) (pd_kq.kx (k17) ha6) (by simp))) ((pd_MO.ext (fv2 := pd_fu (pd_fu (pd_fu (pd_fu (pd_fu (pd_fu fv 6 (upd fo6 ((24 * n) + ii) (nI (cs.getD ((sA 1) + ii) 0)))) 7 (upd (fv 7) n (nI ((eA 1) - (sA 1))))) 8 (upd (fv 8) n (nI uq))) 9 fo9) 10 (upd (fv 10) n (nI mq))) 11 (upd (fv 11) n (nI 0))) (iv2 := iv) mo29 (fun j9 hj9 => by by_cases e906 : j9 = 6; subst e906; rfl; by_cases e907 : j9 = 7; subst e907; rfl; by_cases e908 : j9 = 8; subst e908; rfl; by_cases e909 : j9 = 9; subst e909; rfl; by_cases e910 : j9 = 10; subst e910; rfl; by_cases e911 : j9 = 11; subst e911; rfl; simp only [pd_fu, if_neg e906, if_neg e907, if_neg e908, if_neg e909, if_neg e910, if_neg e911]) rfl)) (hcd) (hdc) (hmq) (h9a) (hk9) (h12) (by omega) (by omega) (fun t ht => by by_cases e9 : t = ii; subst e9; rw [pk_us]; rw [pk_un (by omega)]; exact hf6 t (by omega)) (fun x hx => by rw [pk_un (by omega)]; exact hk6 x hx) (by omega) _ _ w ls (lv_sub hl [0, 1, 2, 3, 4, 5, 6, 7] rfl)
set_option maxHeartbeats 4000000 in
set_option maxRecDepth 100000 in
theorem c_Mod_declareC (l : Launch) (G : pd_G) (h : pd_H) {y : Nat} {ad : Nat → Nat} {fv : Nat → Nat → Int32} {iv : Nat → Int32} {tl : Int64} {cs : List Nat} {n : Nat} {R : Nat → pd_cr} {nw : Nat} {sA eA : Nat → Nat} (hMO : pd_MO G h y ad fv iv tl) (hL : gm_L fv iv cs) (hC : gm_C fv iv n R) (hW : gm_W fv cs nw sA eA) (hcut : nw ≤ 6 → (gr_cut cs).1 = nw) (hwd : nw ≤ 6 → ∀ t, t < nw → tx_sub cs (sA t) (eA t) = gr_w cs t) (hgn : nw ≤ 6 → 2 ≤ nw → gm_name cs (sA 1) (eA 1) = eA 1 → gr_name (gr_w cs 1) = true) : pd_M l y_Mod_declareC prog_15_method_30_code 8 (some .int) rm_Mod_declareC G h [.ref y, .int (nI nw), .int (nI 0)] Value.int (fun r h1 => (¬ ((2 ≤ nw ∧ ¬ nw = 3 ∧ nw ≤ 6) ∧ gm_name cs (sA 1) (eA 1) = eA 1 ∧ (3 < nw → eA 2 - sA 2 = 1 ∧ cs.getD (sA 2) 0 = 58) ∧ ∀ t, 3 ≤ t → t < nw → gm_name cs (sA t) (eA t) = eA t) ∧ r = -1 ∧ h = h1) ∨ (((2 ≤ nw ∧ ¬ nw = 3 ∧ nw ≤ 6) ∧ gm_name cs (sA 1) (eA 1) = eA 1 ∧ (3 < nw → eA 2 - sA 2 = 1 ∧ cs.getD (sA 2) 0 = 58) ∧ ∀ t, 3 ≤ t → t < nw → gm_name cs (sA t) (eA t) = eA t) ∧ r = (gr_dc n R cs false 4).1 ∧ pd_kx [20, 36, 37, 38, 39, 40, 41] h h1 ∧ ∃ fv2 iv2, pd_MO G h1 y ad fv2 iv2 tl ∧ gm_fr [6, 7, 8, 9, 10, 11] [12] fv iv fv2 iv2 ∧ gm_C fv2 iv2 (gr_dc n R cs false 4).2.1 (gr_dc n R cs false 4).2.2)) := by
  refine pd_M.of (by decide) (Nat.le_of_ble_eq_true rfl) ?_
  intro p e s m below meth c X hmn w ls hl
  have hx := X.1
  have hb := X.2.1
  have hl : lv_has ls 8 [(0, .ref y), (1, .int (nI nw)), (2, .int (nI 0))] := hl
  have hz_y := hMO.2.1
  have hy0 : h y = some (20, .inr (10, [.ref (ad 0), .ref (ad 1), .ref (ad 2), .int (iv 3), .int (iv 4), .int (iv 5), .ref (ad 6), .ref (ad 7), .ref (ad 8), .ref (ad 9), .ref (ad 10), .ref (ad 11), .int (iv 12), .ref (ad 13), .ref (ad 14), .ref (ad 15), .ref (ad 16), .ref (ad 17), .ref (ad 18), .ref (ad 19), .int (iv 20), .ref (ad 21), .ref (ad 22), .ref (ad 23), .ref (ad 24), .ref (ad 25), .ref (ad 26), .ref (ad 27), .ref (ad 28), .int (iv 29), .ref (ad 30), .ref (ad 31), .int (iv 32), .int (iv 33), .int (iv 34), .int (iv 35), .long tl, .int (iv 37), .int (iv 38), .int (iv 39), .int (iv 40), .ref (ad 41), .ref (ad 42), .int (iv 43)])) := hMO.1
  have ha0 : h (ad 0) = some (30, .inl (.int, 60, .inl (fv 0))) := (hMO.2.2 0 (by decide)).1
  have ha1 : h (ad 1) = some (31, .inl (.int, 40, .inl (fv 1))) := (hMO.2.2 1 (by decide)).1
  have ha2 : h (ad 2) = some (32, .inl (.int, 40, .inl (fv 2))) := (hMO.2.2 2 (by decide)).1
  have ha6 : h (ad 6) = some (36, .inl (.int, 336, .inl (fv 6))) := (hMO.2.2 6 (by decide)).1
  have ha7 : h (ad 7) = some (37, .inl (.int, 14, .inl (fv 7))) := (hMO.2.2 7 (by decide)).1
  have ha8 : h (ad 8) = some (38, .inl (.int, 14, .inl (fv 8))) := (hMO.2.2 8 (by decide)).1
  have ha9 : h (ad 9) = some (39, .inl (.int, 28, .inl (fv 9))) := (hMO.2.2 9 (by decide)).1
  have ha10 : h (ad 10) = some (40, .inl (.int, 14, .inl (fv 10))) := (hMO.2.2 10 (by decide)).1
  have ha11 : h (ad 11) = some (41, .inl (.boolean, 14, .inl (fv 11))) := (hMO.2.2 11 (by decide)).1
  obtain ⟨hiv3, hln, hl60, hlc⟩ := id hL
  obtain ⟨hiv12, hn2, hn14, hCc⟩ := id hC
  have hw31 := hW.1
  rcases (show nw = 2 ∨ nw = 4 ∨ nw = 5 ∨ nw = 6 ∨ (¬ nw = 2 ∧ ¬ nw = 4 ∧ ¬ nw = 5 ∧ ¬ nw = 6) by omega) with rfl | rfl | rfl | rfl | hno
  · -- nw = 2
    have hl : lv_has ls 8 [(0, .ref y), (1, .int (nI 2)), (2, .int (nI 0))] := hl
    refine lv_iload_n hx hb d_p15m30_0 rfl (lv_at hl 1 rfl) ?_
    refine lv_iconst (v := nI 2) hx hb d_p15m30_1 (by decide) ?_
    refine pd_jlt (tgt := 70) hx hb d_p15m30_2 (by decide) (by decide) (by decide) (fun q => absurd q (by decide)) (fun _ => ?_)
    refine lv_iload_n hx hb d_p15m30_5 rfl (lv_at hl 1 rfl) ?_
    refine lv_iconst (v := nI 3) hx hb d_p15m30_6 (by decide) ?_
    refine pd_jeq (tgt := 70) hx hb d_p15m30_7 (by decide) (by decide) (by decide) (fun q => absurd q (by decide)) (fun _ => ?_)
    refine lv_iload_n hx hb d_p15m30_10 rfl (lv_at hl 1 rfl) ?_
    refine lv_iload_n hx hb d_p15m30_11 rfl (lv_at hl 2 rfl) ?_
    refine pd_zeq (tgt := 19) hx hb d_p15m30_12 (by decide) (by decide) (fun _ => ?_) (fun q => absurd q (by decide))
    refine lv_bipush (v := nI 6) hx hb d_p15m30_19 (by decide) ?_
    refine pd_jgt (tgt := 70) hx hb d_p15m30_21 (by decide) (by decide) (by decide) (fun q => absurd q (by decide)) (fun _ => ?_)
    refine lv_aload_n hx hb d_p15m30_24 rfl (lv_at hl 0 rfl) ?_
    refine lv_iconst (v := nI 1) hx hb d_p15m30_25 (by decide) ?_
    refine pd_cV (a := y) (As := [.int (nI 1)]) (rest := []) X w hy0 rfl (c_Mod_isName l G h (cs := cs) (nw := 2) (sA := sA) (eA := eA) (ad := ad) (fv := fv) (iv := iv) (tl := tl) hMO hL hW (by omega)) ok_Mod_isName ⟨mT_1307, sT_17⟩ mT_1305 ⟨by decide, by decide⟩ rfl hl.1 rfl (Nat.le_of_ble_eq_true rfl) d_p15m30_26 ⟨by decide, by decide⟩ (fun r5 h6 H locs hp7 w => ?_)
    refine W.widen (k := 0) (n := 0) (by decide) (by decide) ?_
    obtain ⟨e8, rfl⟩ := hp7
    refine pd_beq (tgt := 70) hx hb d_p15m30_29 (by decide) (fun q9 => ?_) (fun q9 => ?_)
    · -- taken: 70
      refine lv_iconst (v := -1) hx hb d_p15m30_70 (by decide) ?_
      exact pd_iret (v := (-1)) X w (Or.inl ⟨(fun z => of_decide_eq_false (e8.symm.trans q9) z.2.1), rfl, rfl⟩) (by decide) (by decide) d_p15m30_71
    · -- not taken: 32
      have hnm1 : gm_name cs (sA 1) (eA 1) = eA 1 := of_decide_eq_true (e8.symm.trans q9)
      refine lv_iload_n hx hb d_p15m30_32 rfl (lv_at hl 1 rfl) ?_
      refine lv_iconst (v := nI 3) hx hb d_p15m30_33 (by decide) ?_
      refine pd_jle (tgt := 72) hx hb d_p15m30_34 (by decide) (by decide) (by decide) (fun _ => ?_) (fun q => absurd q (by decide))
      refine lv_iconst (v := nI 3) hx hb d_p15m30_72 (by decide) ?_
      refine lv_istore_n (lv' := [(3, .int (nI 3)), (0, .ref y), (1, .int (nI 2)), (2, .int (nI 0))]) hx hb d_p15m30_73 rfl hl (by decide) rfl (fun ls hl => ?_)
      refine lv_iload_n hx hb d_p15m30_74 rfl (lv_at hl 0 rfl) ?_
      refine lv_iload_n hx hb d_p15m30_75 rfl (lv_at hl 2 rfl) ?_
      refine pd_jge (tgt := 95) hx hb d_p15m30_76 (by decide) (by decide) (by decide) (fun _ => ?_) (fun q => absurd q (by decide))
      have hcd : (2 ≤ 2 ∧ ¬ 2 = 3 ∧ 2 ≤ 6) ∧ gm_name cs (sA 1) (eA 1) = eA 1 ∧ (3 < 2 → eA 2 - sA 2 = 1 ∧ cs.getD (sA 2) 0 = 58) ∧ ∀ t, 3 ≤ t → t < 2 → gm_name cs (sA t) (eA t) = eA t := ⟨⟨by omega, by omega, by omega⟩, hnm1, fun z => by omega, fun t h3 h5 => by omega⟩
      have hcu : (gr_cut cs).1 = 2 := hcut (by omega)
      have hwk := hwd (by omega)
      refine lv_iconst (v := nI 3) hx hb d_p15m30_95 (by decide) ?_
      refine lv_istore_n (lv' := [(3, .int (nI 3)), (0, .ref y), (1, .int (nI 2)), (2, .int (nI 0))]) hx hb d_p15m30_96 rfl hl (by decide) rfl (fun ls hl => ?_)
      refine lv_iload_n hx hb d_p15m30_97 rfl (lv_at hl 0 rfl) ?_
      refine lv_iload_n hx hb d_p15m30_98 rfl (lv_at hl 2 rfl) ?_
      refine pd_jge (tgt := 119) hx hb d_p15m30_99 (by decide) (by decide) (by decide) (fun _ => ?_) (fun q => absurd q (by decide))
      have hup : gr_up n R cs false = some 0 := by unfold gr_up; rw [if_neg (fun z => by have z1 := z.2; omega)]
      have hfa : gr_find R n (gr_w cs 4) = none := gm_find_w hC (by omega)
      have hfb : gr_find R n (gr_w cs 5) = none := gm_find_w hC (by omega)
      have hnl : ¬ (((none : Option Nat) = none ∧ 4 < (gr_cut cs).1) ∨ ((none : Option Nat) = none ∧ 5 < (gr_cut cs).1)) := by rw [hcu]; simp
      refine lv_aload_n hx hb d_p15m30_119 rfl (lv_at hl 1 rfl) ?_
      refine lv_iconst (v := nI 1) hx hb d_p15m30_120 (by decide) ?_
      refine pd_cV (a := y) (As := [.int (nI 1)]) (rest := []) X w hy0 rfl (c_Mod_classOf l G h (cs := cs) (nw := 2) (sA := sA) (eA := eA) (n := n) (R := R) (ad := ad) (fv := fv) (iv := iv) (tl := tl) hMO hL hW (by omega) hC) ok_Mod_classOf ⟨mT_1322, sT_20⟩ mT_1320 ⟨by decide, by decide⟩ rfl hl.1 rfl (Nat.le_of_ble_eq_true rfl) d_p15m30_121 ⟨by decide, by decide⟩ (fun r13 h14 H locs hp15 w => ?_)
      refine W.widen (k := 0) (n := 0) (by decide) (by decide) ?_
      obtain ⟨e16, rfl⟩ := hp15
      refine pd_mlt (tgt := 130) hx hb d_p15m30_124 (by decide) (fun x hx => by have z := gr_fi_lt (e16.symm.trans hx); omega) (fun q17 => ?_) (fun j18 q17 => ?_)
      · -- none: 130
        rw [q17] at e16
        have hq1 : gr_find R n (gr_w cs 1) = none := by rw [← hwk 1 (by omega)]; exact e16.symm
        refine lv_iload_n hx hb d_p15m30_130 rfl (lv_at hl 3 rfl) ?_
        refine pd_zne (tgt := 147) hx hb d_p15m30_131 (by decide) (by decide) (fun q => absurd q (by decide)) (fun _ => ?_)
        refine lv_iload_n hx hb d_p15m30_134 rfl (lv_at hl 2 rfl) ?_
        refine lv_iconst (v := nI 3) hx hb d_p15m30_135 (by decide) ?_
        refine pd_jle (tgt := 147) hx hb d_p15m30_136 (by decide) (by decide) (by decide) (fun _ => ?_) (fun q => absurd q (by decide))
        refine lv_iconst (v := nI 0) hx hb d_p15m30_147 (by decide) ?_
        refine lv_istore_n (lv' := [(3, .int (nI 0)), (0, .ref y), (1, .int (nI 2)), (2, .int (nI 0))]) hx hb d_p15m30_148 rfl hl (by decide) rfl (fun ls hl => ?_)
        refine lv_iload_n hx hb d_p15m30_149 rfl (lv_at hl 3 rfl) ?_
        refine pd_zeq (tgt := 157) hx hb d_p15m30_150 (by decide) (by decide) (fun _ => ?_) (fun q => absurd q (by decide))
        refine lv_iconst (v := nI 4) hx hb d_p15m30_157 (by decide) ?_
        refine lv_istore (lv' := [(4, .int (nI 4)), (3, .int (nI 0)), (0, .ref y), (1, .int (nI 2)), (2, .int (nI 0))]) hx hb d_p15m30_158 hl (by decide) rfl (fun ls hl => ?_)
        refine lv_iload_n hx hb d_p15m30_160 rfl (lv_at hl 3 rfl) ?_
        refine lv_iload hx hb d_p15m30_161 (lv_at hl 0 rfl) ?_
        refine pd_jle (tgt := 173) hx hb d_p15m30_163 (by decide) (by decide) (by decide) (fun _ => ?_) (fun q => absurd q (by decide))
        refine lv_iconst (v := nI 0) hx hb d_p15m30_173 (by decide) ?_
        refine lv_istore (lv' := [(5, .int (nI 0)), (4, .int (nI 4)), (3, .int (nI 0)), (0, .ref y), (1, .int (nI 2)), (2, .int (nI 0))]) hx hb d_p15m30_174 hl (by decide) rfl (fun ls hl => ?_)
        refine lv_aload_n hx hb d_p15m30_176 rfl (lv_at hl 3 rfl) ?_
        refine pd_get X w hy0 rfl 11 (by decide) mT_1150 rfl rfl d_p15m30_177 ?_
        refine lv_iload_n hx hb d_p15m30_180 rfl (lv_at hl 2 rfl) ?_
        refine pd_zald X w ha11 (by omega) (by omega) d_p15m30_181 ?_
        refine pd_top (v' := .int (pd_b ((R 0).2.1))) (congrArg Value.int (hCc 0 (by omega)).2.2.2.2.2.1) ?_
        refine pd_beq (tgt := 188) hx hb d_p15m30_182 (by decide) (fun q23 => ?_) (fun q23 => ?_)
        · -- taken: 188
          refine lv_iload hx hb d_p15m30_188 (lv_at hl 1 rfl) ?_
          refine lv_istore (lv' := [(6, .int (nI 4)), (5, .int (nI 0)), (4, .int (nI 4)), (3, .int (nI 0)), (0, .ref y), (1, .int (nI 2)), (2, .int (nI 0))]) hx hb d_p15m30_190 hl (by decide) rfl (fun ls hl => ?_)
          refine lv_iload hx hb d_p15m30_192 (lv_at hl 0 rfl) ?_
          refine lv_iload_n hx hb d_p15m30_194 rfl (lv_at hl 5 rfl) ?_
          refine pd_jge (tgt := 221) hx hb d_p15m30_195 (by decide) (by decide) (by decide) (fun _ => ?_) (fun q => absurd q (by decide))
          refine lv_iload hx hb d_p15m30_221 (lv_at hl 1 rfl) ?_
          refine lv_iconst (v := nI 2) hx hb d_p15m30_223 (by decide) ?_
          refine pd_jne (tgt := 247) hx hb d_p15m30_224 (by decide) (by decide) (by decide) (fun _ => ?_) (fun q => absurd q (by decide))
          have hn4 : ¬ ((R 0).2.1 = true ∨ gr_pc R none = true ∨ gr_pc R none = true ∨ (¬ (none : Option Nat) = none ∧ (none : Option Nat) = none)) := by simp [gr_pc, q23]
          refine lv_aload_n hx hb d_p15m30_247 rfl (lv_at hl 4 rfl) ?_
          refine pd_get X w hy0 rfl 12 (by decide) mT_1151 rfl rfl d_p15m30_248 ?_
          refine pd_top (v' := .int (nI n)) (congrArg Value.int hiv12) ?_
          refine lv_bipush (v := nI 14) hx hb d_p15m30_251 (by decide) ?_
          refine pd_jne (tgt := 259) hx hb d_p15m30_253 (by decide) (by omega) (by omega) (fun q26 => ?_) (fun q26 => ?_)
          · -- taken: 259
            refine lv_aload_n hx hb d_p15m30_259 rfl (lv_at hl 4 rfl) ?_
            refine pd_get X w hy0 rfl 12 (by decide) mT_1151 rfl rfl d_p15m30_260 ?_
            refine pd_top (v' := .int (nI n)) (congrArg Value.int hiv12) ?_
            refine lv_istore (lv' := [(6, .int (nI n)), (5, .int (nI 0)), (4, .int (nI 4)), (3, .int (nI 0)), (0, .ref y), (1, .int (nI 2)), (2, .int (nI 0))]) hx hb d_p15m30_263 hl (by decide) rfl (fun ls hl => ?_)
            refine lv_iconst (v := nI 0) hx hb d_p15m30_265 (by decide) ?_
            refine lv_istore (lv' := [(7, .int (nI 0)), (6, .int (nI n)), (5, .int (nI 0)), (4, .int (nI 4)), (3, .int (nI 0)), (0, .ref y), (1, .int (nI 2)), (2, .int (nI 0))]) hx hb d_p15m30_266 hl (by decide) rfl (fun ls hl => ?_)
            refine lv_iload hx hb d_p15m30_268 (lv_at hl 0 rfl) ?_
            refine lv_iload hx hb d_p15m30_270 (lv_at hl 2 rfl) ?_
            refine pd_jge (tgt := 302) hx hb d_p15m30_272 (by decide) (by decide) (by decide) (fun _ => ?_) (fun q => absurd q (by decide))
            have hwl1 := (hW.2 1 (by omega)).2.2
            have hdc : gr_dc n R cs false 4 = gr_cadd n R (gr_row R n (gr_w cs 1) false (some 0) none none) := by have z9 := gr_dc_r (n := n) (R := R) (cs := cs) (bi := false) (ff := 4) (i := 0) (by rw [hup, hfa, hfb, gr_hd_s, if_neg hnl, if_neg (fun y => y hq1), if_neg hn4]); rw [hfa, hfb] at z9; exact z9
            refine lv_aload_n hx hb d_p15m30_302 rfl (lv_at hl 5 rfl) ?_
            refine pd_get X w hy0 rfl 10 (by decide) mT_1149 rfl rfl d_p15m30_303 ?_
            refine lv_iload hx hb d_p15m30_306 (lv_at hl 1 rfl) ?_
            refine lv_iload hx hb d_p15m30_308 (lv_at hl 2 rfl) ?_
            refine pd_iast X w ha10 (hMO.2.2 10 (by decide)).2 (by omega) (by omega) d_p15m30_310 (fun H locs w => ?_)
            have w : pd_w G s H locs (pd_up h (ad 10) (40, .inl (.int, 14, .inl (upd (fv 10) n (nI 0))))) := w
            obtain ⟨h28, u31⟩ : ∃ z, z = pd_up h (ad 10) (40, .inl (.int, 14, .inl (upd (fv 10) n (nI 0)))) := ⟨_, rfl⟩
            rw [← u31] at w
            have k29 : pd_kq (ad 10) h h28 := by rw [u31]; exact pd_up_kq
            have f30 : h28 (ad 10) = some (40, .inl (.int, 14, .inl (upd (fv 10) n (nI 0)))) := by rw [u31]; exact pd_up_s _ _ _
            have f32 := k29 _ _ (pd_ne hy0 ha10 (by simp)) hy0
            have f33 := k29 _ _ (pd_ne ha0 ha10 (by simp)) ha0
            have f34 := k29 _ _ (pd_ne ha1 ha10 (by simp)) ha1
            have f35 := k29 _ _ (pd_ne ha2 ha10 (by simp)) ha2
            have f36 := k29 _ _ (pd_ne ha6 ha10 (by simp)) ha6
            have f37 := k29 _ _ (pd_ne ha7 ha10 (by simp)) ha7
            have f38 := k29 _ _ (pd_ne ha8 ha10 (by simp)) ha8
            have f39 := k29 _ _ (pd_ne ha9 ha10 (by simp)) ha9
            have f40 := k29 _ _ (pd_ne ha11 ha10 (by simp)) ha11
            refine lv_aload_n hx hb d_p15m30_311 rfl (lv_at hl 5 rfl) ?_
            refine pd_get X w f32 rfl 8 (by decide) mT_1147 rfl rfl d_p15m30_312 ?_
            refine lv_iload hx hb d_p15m30_315 (lv_at hl 1 rfl) ?_
            refine lv_iload_n hx hb d_p15m30_317 rfl (lv_at hl 4 rfl) ?_
            refine pd_iast X w f38 (hMO.2.2 8 (by decide)).2 (by omega) (by omega) d_p15m30_318 (fun H locs w => ?_)
            have w : pd_w G s H locs (pd_up h28 (ad 8) (38, .inl (.int, 14, .inl (upd (fv 8) n (nI 0))))) := w
            obtain ⟨h41, u44⟩ : ∃ z, z = pd_up h28 (ad 8) (38, .inl (.int, 14, .inl (upd (fv 8) n (nI 0)))) := ⟨_, rfl⟩
            rw [← u44] at w
            have k42 : pd_kq (ad 8) h28 h41 := by rw [u44]; exact pd_up_kq
            have f43 : h41 (ad 8) = some (38, .inl (.int, 14, .inl (upd (fv 8) n (nI 0)))) := by rw [u44]; exact pd_up_s _ _ _
            have f45 := k42 _ _ (pd_ne f32 f38 (by simp)) f32
            have f46 := k42 _ _ (pd_ne f33 f38 (by simp)) f33
            have f47 := k42 _ _ (pd_ne f34 f38 (by simp)) f34
            have f48 := k42 _ _ (pd_ne f35 f38 (by simp)) f35
            have f49 := k42 _ _ (pd_ne f36 f38 (by simp)) f36
            have f50 := k42 _ _ (pd_ne f37 f38 (by simp)) f37
            have f51 := k42 _ _ (pd_ne f39 f38 (by simp)) f39
            have f52 := k42 _ _ (pd_ne f40 f38 (by simp)) f40
            have f53 := k42 _ _ (pd_ne f30 f38 (by simp)) f30
            refine lv_aload_n hx hb d_p15m30_319 rfl (lv_at hl 5 rfl) ?_
            refine pd_get X w f45 rfl 11 (by decide) mT_1150 rfl rfl d_p15m30_320 ?_
            refine lv_iload hx hb d_p15m30_323 (lv_at hl 1 rfl) ?_
            refine lv_iload_n hx hb d_p15m30_325 rfl (lv_at hl 7 rfl) ?_
            refine pd_zast (z := (nI 0)) X w f52 (hMO.2.2 11 (by decide)).2 (by omega) (by omega) (by decide) d_p15m30_326 (fun H locs w => ?_)
            have w : pd_w G s H locs (pd_up h41 (ad 11) (41, .inl (.boolean, 14, .inl (upd (fv 11) n (nI 0))))) := w
            obtain ⟨h54, u57⟩ : ∃ z, z = pd_up h41 (ad 11) (41, .inl (.boolean, 14, .inl (upd (fv 11) n (nI 0)))) := ⟨_, rfl⟩
            rw [← u57] at w
            have k55 : pd_kq (ad 11) h41 h54 := by rw [u57]; exact pd_up_kq
            have f56 : h54 (ad 11) = some (41, .inl (.boolean, 14, .inl (upd (fv 11) n (nI 0)))) := by rw [u57]; exact pd_up_s _ _ _
            have f58 := k55 _ _ (pd_ne f45 f52 (by simp)) f45
            have f59 := k55 _ _ (pd_ne f46 f52 (by simp)) f46
            have f60 := k55 _ _ (pd_ne f47 f52 (by simp)) f47
            have f61 := k55 _ _ (pd_ne f48 f52 (by simp)) f48
            have f62 := k55 _ _ (pd_ne f49 f52 (by simp)) f49
            have f63 := k55 _ _ (pd_ne f50 f52 (by simp)) f50
            have f64 := k55 _ _ (pd_ne f51 f52 (by simp)) f51
            have f65 := k55 _ _ (pd_ne f53 f52 (by simp)) f53
            have f66 := k55 _ _ (pd_ne f43 f52 (by simp)) f43
            refine lv_aload_n hx hb d_p15m30_327 rfl (lv_at hl 5 rfl) ?_
            refine pd_get X w f58 rfl 7 (by decide) mT_1146 rfl rfl d_p15m30_328 ?_
            refine lv_iload hx hb d_p15m30_331 (lv_at hl 1 rfl) ?_
            refine lv_aload_n hx hb d_p15m30_333 rfl (lv_at hl 5 rfl) ?_
            refine pd_get X w f58 rfl 2 (by decide) mT_1141 rfl rfl d_p15m30_334 ?_
            refine lv_iconst (v := nI 1) hx hb d_p15m30_337 (by decide) ?_
            refine pd_iald X w f61 (by omega) (by omega) d_p15m30_338 ?_
            refine pd_top (v' := .int (nI (eA 1))) (congrArg Value.int (hW.2 1 (by omega)).2.1) ?_
            refine lv_aload_n hx hb d_p15m30_339 rfl (lv_at hl 5 rfl) ?_
            refine pd_get X w f58 rfl 1 (by decide) mT_1140 rfl rfl d_p15m30_340 ?_
            refine lv_iconst (v := nI 1) hx hb d_p15m30_343 (by decide) ?_
            refine pd_iald X w f60 (by omega) (by omega) d_p15m30_344 ?_
            refine pd_top (v' := .int (nI (sA 1))) (congrArg Value.int (hW.2 1 (by omega)).1) ?_
            refine pd_isub hx hb d_p15m30_345 (by omega) ?_
            refine pd_iast X w f63 (hMO.2.2 7 (by decide)).2 (by omega) (by omega) d_p15m30_346 (fun H locs w => ?_)
            have w : pd_w G s H locs (pd_up h54 (ad 7) (37, .inl (.int, 14, .inl (upd (fv 7) n (nI ((eA 1) - (sA 1))))))) := w
            obtain ⟨h67, u70⟩ : ∃ z, z = pd_up h54 (ad 7) (37, .inl (.int, 14, .inl (upd (fv 7) n (nI ((eA 1) - (sA 1)))))) := ⟨_, rfl⟩
            rw [← u70] at w
            have k68 : pd_kq (ad 7) h54 h67 := by rw [u70]; exact pd_up_kq
            have f69 : h67 (ad 7) = some (37, .inl (.int, 14, .inl (upd (fv 7) n (nI ((eA 1) - (sA 1)))))) := by rw [u70]; exact pd_up_s _ _ _
            have f71 := k68 _ _ (pd_ne f58 f63 (by simp)) f58
            have f72 := k68 _ _ (pd_ne f59 f63 (by simp)) f59
            have f73 := k68 _ _ (pd_ne f60 f63 (by simp)) f60
            have f74 := k68 _ _ (pd_ne f61 f63 (by simp)) f61
            have f75 := k68 _ _ (pd_ne f62 f63 (by simp)) f62
            have f76 := k68 _ _ (pd_ne f64 f63 (by simp)) f64
            have f77 := k68 _ _ (pd_ne f65 f63 (by simp)) f65
            have f78 := k68 _ _ (pd_ne f66 f63 (by simp)) f66
            have f79 := k68 _ _ (pd_ne f56 f63 (by simp)) f56
            refine lv_iconst (v := nI 0) hx hb d_p15m30_347 (by decide) ?_
            refine lv_istore (lv' := [(7, .int (nI 0)), (6, .int (nI n)), (5, .int (nI 0)), (4, .int (nI 4)), (3, .int (nI 0)), (0, .ref y), (1, .int (nI 2)), (2, .int (nI 0))]) hx hb d_p15m30_348 hl (by decide) rfl (fun ls hl => ?_)
            have mo80 : pd_MO G h67 y ad (pd_fu (pd_fu (pd_fu (pd_fu fv 7 (upd (fv 7) n (nI ((eA 1) - (sA 1))))) 8 (upd (fv 8) n (nI 0))) 10 (upd (fv 10) n (nI 0))) 11 (upd (fv 11) n (nI 0))) iv tl := pd_MO.of (ts := [40, 38, 41, 37]) hMO (pd_kx.tr (pd_kx.mono (us := [40, 38, 41, 37]) (pd_kx.tr (pd_kx.mono (us := [40, 38, 41]) (pd_kx.tr (pd_kx.mono (us := [40, 38]) (pd_kq.kx (k29) ha10) (by simp)) (pd_kx.mono (us := [40, 38]) (pd_kq.kx (k42) f38) (by simp))) (by simp)) (pd_kx.mono (us := [40, 38, 41]) (pd_kq.kx (k55) f52) (by simp))) (by simp)) (pd_kx.mono (us := [40, 38, 41, 37]) (pd_kq.kx (k68) f63) (by simp))) f71 (fun j hj => if e7 : j = 7 then by subst e7; exact Or.inl f69 else if e8 : j = 8 then by subst e8; exact Or.inl f78 else if e10 : j = 10 then by subst e10; exact Or.inl f77 else if e11 : j = 11 then by subst e11; exact Or.inl f79 else Or.inr ⟨fun z => by first | (simp at z; done) | (simp at z; omega), by rw [pd_fu_n e11, pd_fu_n e10, pd_fu_n e8, pd_fu_n e7]⟩)
            exact lp_Mod_declareC_350 l G h hMO hL hC hW hcut hwd hgn X hmn (100 + 1) 0 0 0 4 none none (fv 6) (fv 9) h67 (pd_kx.mono (us := [20, 36, 37, 38, 39, 40, 41]) (pd_kx.tr (pd_kx.mono (us := [40, 38, 41, 37]) (pd_kx.tr (pd_kx.mono (us := [40, 38, 41]) (pd_kx.tr (pd_kx.mono (us := [40, 38]) (pd_kq.kx (k29) ha10) (by simp)) (pd_kx.mono (us := [40, 38]) (pd_kq.kx (k42) f38) (by simp))) (by simp)) (pd_kx.mono (us := [40, 38, 41]) (pd_kq.kx (k55) f52) (by simp))) (by simp)) (pd_kx.mono (us := [40, 38, 41, 37]) (pd_kq.kx (k68) f63) (by simp))) (by simp)) ((pd_MO.ext (fv2 := pd_fu (pd_fu (pd_fu (pd_fu (pd_fu (pd_fu fv 6 (fv 6)) 7 (upd (fv 7) n (nI ((eA 1) - (sA 1))))) 8 (upd (fv 8) n (nI 0))) 9 (fv 9)) 10 (upd (fv 10) n (nI 0))) 11 (upd (fv 11) n (nI 0))) (iv2 := iv) mo80 (fun j9 hj9 => by by_cases e906 : j9 = 6; subst e906; rfl; by_cases e907 : j9 = 7; subst e907; rfl; by_cases e908 : j9 = 8; subst e908; rfl; by_cases e909 : j9 = 9; subst e909; rfl; by_cases e910 : j9 = 10; subst e910; rfl; by_cases e911 : j9 = 11; subst e911; rfl; simp only [pd_fu, if_neg e906, if_neg e907, if_neg e908, if_neg e909, if_neg e910, if_neg e911]) rfl)) (hcd) (hdc) (rfl) (fun t ht => by exact absurd ht (by simp)) (fun x hx => by rfl) (by simp) (by omega) (by omega) (fun t ht => absurd ht (Nat.not_lt_zero t)) (fun _ _ => rfl) (by omega) _ _ w ls (lv_sub hl [0, 1, 2, 3, 4, 5, 6, 7] rfl)
          · -- not taken: 256
            refine lv_bipush (v := -5) hx hb d_p15m30_256 (by decide) ?_
            have hg : gr_dc n R cs false 4 = (-5, n, R) := by have z9 := gr_dc_r (n := n) (R := R) (cs := cs) (bi := false) (ff := 4) (i := 0) (by rw [hup, hfa, hfb, gr_hd_s, if_neg hnl, if_neg (fun y => y hq1), if_neg hn4]); rw [z9, gr_cadd_n (by omega)]
            exact pd_iret (v := (-5)) X w (Or.inr ⟨hcd, by rw [hg], pd_kx.rf, fv, iv, hMO, ⟨fun _ _ => rfl, fun _ _ => rfl⟩, (by rw [hg]; exact hC)⟩) (by decide) (by decide) d_p15m30_258
        · -- not taken: 185
          refine lv_bipush (v := -4) hx hb d_p15m30_185 (by decide) ?_
          have hg : gr_dc n R cs false 4 = (-4, n, R) := gr_dc_l (by rw [hup, hfa, hfb, gr_hd_s, if_neg hnl, if_neg (fun y => y hq1), if_pos (by simp [gr_pc, q23])])
          exact pd_iret (v := (-4)) X w (Or.inr ⟨hcd, by rw [hg], pd_kx.rf, fv, iv, hMO, ⟨fun _ _ => rfl, fun _ _ => rfl⟩, (by rw [hg]; exact hC)⟩) (by decide) (by decide) d_p15m30_187
      · -- some: 127
        rw [q17] at e16
        have j18lt := gr_fi_lt e16.symm
        have hq1 : gr_find R n (gr_w cs 1) = some j18 := by rw [← hwk 1 (by omega)]; exact e16.symm
        refine lv_bipush (v := -3) hx hb d_p15m30_127 (by decide) ?_
        have hg : gr_dc n R cs false 4 = (-3, n, R) := gr_dc_l (by rw [hup, hfa, hfb, gr_hd_s, if_neg hnl, if_pos (by rw [hq1]; simp)])
        exact pd_iret (v := (-3)) X w (Or.inr ⟨hcd, by rw [hg], pd_kx.rf, fv, iv, hMO, ⟨fun _ _ => rfl, fun _ _ => rfl⟩, (by rw [hg]; exact hC)⟩) (by decide) (by decide) d_p15m30_129
  · -- nw = 4
    have hl : lv_has ls 8 [(0, .ref y), (1, .int (nI 4)), (2, .int (nI 0))] := hl
    refine lv_iload_n hx hb d_p15m30_0 rfl (lv_at hl 1 rfl) ?_
    refine lv_iconst (v := nI 2) hx hb d_p15m30_1 (by decide) ?_
    refine pd_jlt (tgt := 70) hx hb d_p15m30_2 (by decide) (by decide) (by decide) (fun q => absurd q (by decide)) (fun _ => ?_)
    refine lv_iload_n hx hb d_p15m30_5 rfl (lv_at hl 1 rfl) ?_
    refine lv_iconst (v := nI 3) hx hb d_p15m30_6 (by decide) ?_
    refine pd_jeq (tgt := 70) hx hb d_p15m30_7 (by decide) (by decide) (by decide) (fun q => absurd q (by decide)) (fun _ => ?_)
    refine lv_iload_n hx hb d_p15m30_10 rfl (lv_at hl 1 rfl) ?_
    refine lv_iload_n hx hb d_p15m30_11 rfl (lv_at hl 2 rfl) ?_
    refine pd_zeq (tgt := 19) hx hb d_p15m30_12 (by decide) (by decide) (fun _ => ?_) (fun q => absurd q (by decide))
    refine lv_bipush (v := nI 6) hx hb d_p15m30_19 (by decide) ?_
    refine pd_jgt (tgt := 70) hx hb d_p15m30_21 (by decide) (by decide) (by decide) (fun q => absurd q (by decide)) (fun _ => ?_)
    refine lv_aload_n hx hb d_p15m30_24 rfl (lv_at hl 0 rfl) ?_
    refine lv_iconst (v := nI 1) hx hb d_p15m30_25 (by decide) ?_
    refine pd_cV (a := y) (As := [.int (nI 1)]) (rest := []) X w hy0 rfl (c_Mod_isName l G h (cs := cs) (nw := 4) (sA := sA) (eA := eA) (ad := ad) (fv := fv) (iv := iv) (tl := tl) hMO hL hW (by omega)) ok_Mod_isName ⟨mT_1307, sT_17⟩ mT_1305 ⟨by decide, by decide⟩ rfl hl.1 rfl (Nat.le_of_ble_eq_true rfl) d_p15m30_26 ⟨by decide, by decide⟩ (fun r85 h86 H locs hp87 w => ?_)
    refine W.widen (k := 0) (n := 0) (by decide) (by decide) ?_
    obtain ⟨e88, rfl⟩ := hp87
    refine pd_beq (tgt := 70) hx hb d_p15m30_29 (by decide) (fun q89 => ?_) (fun q89 => ?_)
    · -- taken: 70
      refine lv_iconst (v := -1) hx hb d_p15m30_70 (by decide) ?_
      exact pd_iret (v := (-1)) X w (Or.inl ⟨(fun z => of_decide_eq_false (e88.symm.trans q89) z.2.1), rfl, rfl⟩) (by decide) (by decide) d_p15m30_71
    · -- not taken: 32
      have hnm1 : gm_name cs (sA 1) (eA 1) = eA 1 := of_decide_eq_true (e88.symm.trans q89)
      refine lv_iload_n hx hb d_p15m30_32 rfl (lv_at hl 1 rfl) ?_
      refine lv_iconst (v := nI 3) hx hb d_p15m30_33 (by decide) ?_
      refine pd_jle (tgt := 72) hx hb d_p15m30_34 (by decide) (by decide) (by decide) (fun q => absurd q (by decide)) (fun _ => ?_)
      have hwl2 := (hW.2 2 (by omega)).2.2
      refine lv_aload_n hx hb d_p15m30_37 rfl (lv_at hl 0 rfl) ?_
      refine pd_get X w hy0 rfl 2 (by decide) mT_1141 rfl rfl d_p15m30_38 ?_
      refine lv_iconst (v := nI 2) hx hb d_p15m30_41 (by decide) ?_
      refine pd_iald X w ha2 (by omega) (by omega) d_p15m30_42 ?_
      refine pd_top (v' := .int (nI (eA 2))) (congrArg Value.int (hW.2 2 (by omega)).2.1) ?_
      refine lv_aload_n hx hb d_p15m30_43 rfl (lv_at hl 0 rfl) ?_
      refine pd_get X w hy0 rfl 1 (by decide) mT_1140 rfl rfl d_p15m30_44 ?_
      refine lv_iconst (v := nI 2) hx hb d_p15m30_47 (by decide) ?_
      refine pd_iald X w ha1 (by omega) (by omega) d_p15m30_48 ?_
      refine pd_top (v' := .int (nI (sA 2))) (congrArg Value.int (hW.2 2 (by omega)).1) ?_
      refine pd_isub hx hb d_p15m30_49 (by omega) ?_
      refine lv_iconst (v := nI 1) hx hb d_p15m30_50 (by decide) ?_
      refine pd_jne (tgt := 70) hx hb d_p15m30_51 (by decide) (by omega) (by omega) (fun q91 => ?_) (fun q91 => ?_)
      · -- taken: 70
        refine lv_iconst (v := -1) hx hb d_p15m30_70 (by decide) ?_
        exact pd_iret (v := (-1)) X w (Or.inl ⟨(fun z => by have z1 := z.2.2.1 (by omega); omega), rfl, rfl⟩) (by decide) (by decide) d_p15m30_71
      · -- not taken: 54
        refine lv_aload_n hx hb d_p15m30_54 rfl (lv_at hl 0 rfl) ?_
        refine pd_get X w hy0 rfl 0 (by decide) mT_1139 rfl rfl d_p15m30_55 ?_
        refine lv_aload_n hx hb d_p15m30_58 rfl (lv_at hl 0 rfl) ?_
        refine pd_get X w hy0 rfl 1 (by decide) mT_1140 rfl rfl d_p15m30_59 ?_
        refine lv_iconst (v := nI 2) hx hb d_p15m30_62 (by decide) ?_
        refine pd_iald X w ha1 (by omega) (by omega) d_p15m30_63 ?_
        refine pd_top (v' := .int (nI (sA 2))) (congrArg Value.int (hW.2 2 (by omega)).1) ?_
        refine pd_iald X w ha0 (by omega) (by omega) d_p15m30_64 ?_
        refine pd_top (v' := .int (nI (cs.getD (sA 2) 0))) (congrArg Value.int (hln _ (by omega))) ?_
        have := tx_lt hlc (sA 2)
        refine lv_bipush (v := nI 58) hx hb d_p15m30_65 (by decide) ?_
        refine pd_jeq (tgt := 72) hx hb d_p15m30_67 (by decide) (by omega) (by omega) (fun q92 => ?_) (fun q92 => ?_)
        · -- taken: 72
          refine lv_iconst (v := nI 3) hx hb d_p15m30_72 (by decide) ?_
          refine lv_istore_n (lv' := [(3, .int (nI 3)), (0, .ref y), (1, .int (nI 4)), (2, .int (nI 0))]) hx hb d_p15m30_73 rfl hl (by decide) rfl (fun ls hl => ?_)
          refine lv_iload_n hx hb d_p15m30_74 rfl (lv_at hl 0 rfl) ?_
          refine lv_iload_n hx hb d_p15m30_75 rfl (lv_at hl 2 rfl) ?_
          refine pd_jge (tgt := 95) hx hb d_p15m30_76 (by decide) (by decide) (by decide) (fun q => absurd q (by decide)) (fun _ => ?_)
          refine lv_aload_n hx hb d_p15m30_79 rfl (lv_at hl 1 rfl) ?_
          refine lv_iload_n hx hb d_p15m30_80 rfl (lv_at hl 0 rfl) ?_
          refine pd_cV (a := y) (As := [.int (nI 3)]) (rest := []) X w hy0 rfl (c_Mod_isName l G h (cs := cs) (nw := 4) (sA := sA) (eA := eA) (ad := ad) (fv := fv) (iv := iv) (tl := tl) hMO hL hW (by omega)) ok_Mod_isName ⟨mT_1307, sT_17⟩ mT_1305 ⟨by decide, by decide⟩ rfl hl.1 rfl (Nat.le_of_ble_eq_true rfl) d_p15m30_81 ⟨by decide, by decide⟩ (fun r94 h95 H locs hp96 w => ?_)
          refine W.widen (k := 0) (n := 0) (by decide) (by decide) ?_
          obtain ⟨e97, rfl⟩ := hp96
          refine pd_bne (tgt := 89) hx hb d_p15m30_84 (by decide) (fun q98 => ?_) (fun q98 => ?_)
          · -- taken: 89
            have hnm3 : gm_name cs (sA 3) (eA 3) = eA 3 := of_decide_eq_true (e97.symm.trans q98)
            refine pd_iinc (k := 0) (d := 1) (lv' := [(3, .int (nI 4)), (0, .ref y), (1, .int (nI 4)), (2, .int (nI 0))]) hx hb d_p15m30_89 (by decide) hl rfl (by decide) rfl (fun ls hl => ?_)
            refine lv_goto (tgt := 74) hx hb d_p15m30_92 (by decide) ?_
            refine lv_iload_n hx hb d_p15m30_74 rfl (lv_at hl 0 rfl) ?_
            refine lv_iload_n hx hb d_p15m30_75 rfl (lv_at hl 2 rfl) ?_
            refine pd_jge (tgt := 95) hx hb d_p15m30_76 (by decide) (by decide) (by decide) (fun _ => ?_) (fun q => absurd q (by decide))
            have hcd : (2 ≤ 4 ∧ ¬ 4 = 3 ∧ 4 ≤ 6) ∧ gm_name cs (sA 1) (eA 1) = eA 1 ∧ (3 < 4 → eA 2 - sA 2 = 1 ∧ cs.getD (sA 2) 0 = 58) ∧ ∀ t, 3 ≤ t → t < 4 → gm_name cs (sA t) (eA t) = eA t := ⟨⟨by omega, by omega, by omega⟩, hnm1, fun _ => ⟨by omega, by omega⟩, fun t h3 h5 => by rcases (show t = 3 by omega) with rfl <;> assumption⟩
            have hcu : (gr_cut cs).1 = 4 := hcut (by omega)
            have hwk := hwd (by omega)
            refine lv_iconst (v := nI 3) hx hb d_p15m30_95 (by decide) ?_
            refine lv_istore_n (lv' := [(3, .int (nI 3)), (0, .ref y), (1, .int (nI 4)), (2, .int (nI 0))]) hx hb d_p15m30_96 rfl hl (by decide) rfl (fun ls hl => ?_)
            refine lv_iload_n hx hb d_p15m30_97 rfl (lv_at hl 0 rfl) ?_
            refine lv_iload_n hx hb d_p15m30_98 rfl (lv_at hl 2 rfl) ?_
            refine pd_jge (tgt := 119) hx hb d_p15m30_99 (by decide) (by decide) (by decide) (fun q => absurd q (by decide)) (fun _ => ?_)
            refine lv_aload_n hx hb d_p15m30_102 rfl (lv_at hl 1 rfl) ?_
            refine lv_iload_n hx hb d_p15m30_103 rfl (lv_at hl 0 rfl) ?_
            refine pd_cV (a := y) (As := [.int (nI 3)]) (rest := []) X w hy0 rfl (c_Mod_classOf l G h (cs := cs) (nw := 4) (sA := sA) (eA := eA) (n := n) (R := R) (ad := ad) (fv := fv) (iv := iv) (tl := tl) hMO hL hW (by omega) hC) ok_Mod_classOf ⟨mT_1322, sT_20⟩ mT_1320 ⟨by decide, by decide⟩ rfl hl.1 rfl (Nat.le_of_ble_eq_true rfl) d_p15m30_104 ⟨by decide, by decide⟩ (fun r101 h102 H locs hp103 w => ?_)
            refine W.widen (k := 0) (n := 0) (by decide) (by decide) ?_
            obtain ⟨e104, rfl⟩ := hp103
            refine pd_mge (tgt := 113) hx hb d_p15m30_107 (by decide) (fun x hx => by have z := gr_fi_lt (e104.symm.trans hx); omega) (fun q105 => ?_) (fun j106 q105 => ?_)
            · -- none: 110
              rw [q105] at e104
              have hq3 : gr_find R n (gr_w cs 3) = none := by rw [← hwk 3 (by omega)]; exact e104.symm
              refine lv_bipush (v := -2) hx hb d_p15m30_110 (by decide) ?_
              have hup : gr_up n R cs false = none := by unfold gr_up; rw [if_pos ⟨rfl, by omega⟩]; exact hq3
              have hg : gr_dc n R cs false 4 = (-2, n, R) := gr_dc_l (by rw [hup]; rfl)
              exact pd_iret (v := (-2)) X w (Or.inr ⟨hcd, by rw [hg], pd_kx.rf, fv, iv, hMO, ⟨fun _ _ => rfl, fun _ _ => rfl⟩, (by rw [hg]; exact hC)⟩) (by decide) (by decide) d_p15m30_112
            · -- some: 113
              rw [q105] at e104
              have j106lt := gr_fi_lt e104.symm
              have hq3 : gr_find R n (gr_w cs 3) = some j106 := by rw [← hwk 3 (by omega)]; exact e104.symm
              refine pd_iinc (k := 0) (d := 1) (lv' := [(3, .int (nI 4)), (0, .ref y), (1, .int (nI 4)), (2, .int (nI 0))]) hx hb d_p15m30_113 (by decide) hl rfl (by decide) rfl (fun ls hl => ?_)
              refine lv_goto (tgt := 97) hx hb d_p15m30_116 (by decide) ?_
              refine lv_iload_n hx hb d_p15m30_97 rfl (lv_at hl 0 rfl) ?_
              refine lv_iload_n hx hb d_p15m30_98 rfl (lv_at hl 2 rfl) ?_
              refine pd_jge (tgt := 119) hx hb d_p15m30_99 (by decide) (by decide) (by decide) (fun _ => ?_) (fun q => absurd q (by decide))
              have hup : gr_up n R cs false = some j106 := by unfold gr_up; rw [if_pos ⟨rfl, by omega⟩]; exact hq3
              have hfa : gr_find R n (gr_w cs 4) = none := gm_find_w hC (by omega)
              have hfb : gr_find R n (gr_w cs 5) = none := gm_find_w hC (by omega)
              have hnl : ¬ (((none : Option Nat) = none ∧ 4 < (gr_cut cs).1) ∨ ((none : Option Nat) = none ∧ 5 < (gr_cut cs).1)) := by rw [hcu]; simp
              refine lv_aload_n hx hb d_p15m30_119 rfl (lv_at hl 1 rfl) ?_
              refine lv_iconst (v := nI 1) hx hb d_p15m30_120 (by decide) ?_
              refine pd_cV (a := y) (As := [.int (nI 1)]) (rest := []) X w hy0 rfl (c_Mod_classOf l G h (cs := cs) (nw := 4) (sA := sA) (eA := eA) (n := n) (R := R) (ad := ad) (fv := fv) (iv := iv) (tl := tl) hMO hL hW (by omega) hC) ok_Mod_classOf ⟨mT_1322, sT_20⟩ mT_1320 ⟨by decide, by decide⟩ rfl hl.1 rfl (Nat.le_of_ble_eq_true rfl) d_p15m30_121 ⟨by decide, by decide⟩ (fun r108 h109 H locs hp110 w => ?_)
              refine W.widen (k := 0) (n := 0) (by decide) (by decide) ?_
              obtain ⟨e111, rfl⟩ := hp110
              refine pd_mlt (tgt := 130) hx hb d_p15m30_124 (by decide) (fun x hx => by have z := gr_fi_lt (e111.symm.trans hx); omega) (fun q112 => ?_) (fun j113 q112 => ?_)
              · -- none: 130
                rw [q112] at e111
                have hq1 : gr_find R n (gr_w cs 1) = none := by rw [← hwk 1 (by omega)]; exact e111.symm
                refine lv_iload_n hx hb d_p15m30_130 rfl (lv_at hl 3 rfl) ?_
                refine pd_zne (tgt := 147) hx hb d_p15m30_131 (by decide) (by decide) (fun q => absurd q (by decide)) (fun _ => ?_)
                refine lv_iload_n hx hb d_p15m30_134 rfl (lv_at hl 2 rfl) ?_
                refine lv_iconst (v := nI 3) hx hb d_p15m30_135 (by decide) ?_
                refine pd_jle (tgt := 147) hx hb d_p15m30_136 (by decide) (by decide) (by decide) (fun q => absurd q (by decide)) (fun _ => ?_)
                refine lv_aload_n hx hb d_p15m30_139 rfl (lv_at hl 1 rfl) ?_
                refine lv_iconst (v := nI 3) hx hb d_p15m30_140 (by decide) ?_
                refine pd_cV (a := y) (As := [.int (nI 3)]) (rest := []) X w hy0 rfl (c_Mod_classOf l G h (cs := cs) (nw := 4) (sA := sA) (eA := eA) (n := n) (R := R) (ad := ad) (fv := fv) (iv := iv) (tl := tl) hMO hL hW (by omega) hC) ok_Mod_classOf ⟨mT_1322, sT_20⟩ mT_1320 ⟨by decide, by decide⟩ rfl hl.1 rfl (Nat.le_of_ble_eq_true rfl) d_p15m30_141 ⟨by decide, by decide⟩ (fun r116 h117 H locs hp118 w => ?_)
                refine W.widen (k := 0) (n := 0) (by decide) (by decide) ?_
                obtain ⟨e119, rfl⟩ := hp118
                refine pd_top (v' := .int (nI j106)) (congrArg Value.int (by rw [e119, hwk 3 (by omega), hq3]; rfl)) ?_
                refine lv_goto (tgt := 148) hx hb d_p15m30_144 (by decide) ?_
                refine lv_istore_n (lv' := [(3, .int (nI j106)), (0, .ref y), (1, .int (nI 4)), (2, .int (nI 0))]) hx hb d_p15m30_148 rfl hl (by decide) rfl (fun ls hl => ?_)
                refine lv_iload_n hx hb d_p15m30_149 rfl (lv_at hl 3 rfl) ?_
                refine pd_zeq (tgt := 157) hx hb d_p15m30_150 (by decide) (by decide) (fun _ => ?_) (fun q => absurd q (by decide))
                refine lv_iconst (v := nI 4) hx hb d_p15m30_157 (by decide) ?_
                refine lv_istore (lv' := [(4, .int (nI 4)), (3, .int (nI j106)), (0, .ref y), (1, .int (nI 4)), (2, .int (nI 0))]) hx hb d_p15m30_158 hl (by decide) rfl (fun ls hl => ?_)
                refine lv_iload_n hx hb d_p15m30_160 rfl (lv_at hl 3 rfl) ?_
                refine lv_iload hx hb d_p15m30_161 (lv_at hl 0 rfl) ?_
                refine pd_jle (tgt := 173) hx hb d_p15m30_163 (by decide) (by decide) (by decide) (fun _ => ?_) (fun q => absurd q (by decide))
                refine lv_iconst (v := nI 0) hx hb d_p15m30_173 (by decide) ?_
                refine lv_istore (lv' := [(5, .int (nI 0)), (4, .int (nI 4)), (3, .int (nI j106)), (0, .ref y), (1, .int (nI 4)), (2, .int (nI 0))]) hx hb d_p15m30_174 hl (by decide) rfl (fun ls hl => ?_)
                refine lv_aload_n hx hb d_p15m30_176 rfl (lv_at hl 3 rfl) ?_
                refine pd_get X w hy0 rfl 11 (by decide) mT_1150 rfl rfl d_p15m30_177 ?_
                refine lv_iload_n hx hb d_p15m30_180 rfl (lv_at hl 2 rfl) ?_
                refine pd_zald X w ha11 (by omega) (by omega) d_p15m30_181 ?_
                refine pd_top (v' := .int (pd_b ((R j106).2.1))) (congrArg Value.int (hCc j106 (by omega)).2.2.2.2.2.1) ?_
                refine pd_beq (tgt := 188) hx hb d_p15m30_182 (by decide) (fun q122 => ?_) (fun q122 => ?_)
                · -- taken: 188
                  refine lv_iload hx hb d_p15m30_188 (lv_at hl 1 rfl) ?_
                  refine lv_istore (lv' := [(6, .int (nI 4)), (5, .int (nI 0)), (4, .int (nI 4)), (3, .int (nI j106)), (0, .ref y), (1, .int (nI 4)), (2, .int (nI 0))]) hx hb d_p15m30_190 hl (by decide) rfl (fun ls hl => ?_)
                  refine lv_iload hx hb d_p15m30_192 (lv_at hl 0 rfl) ?_
                  refine lv_iload_n hx hb d_p15m30_194 rfl (lv_at hl 5 rfl) ?_
                  refine pd_jge (tgt := 221) hx hb d_p15m30_195 (by decide) (by decide) (by decide) (fun _ => ?_) (fun q => absurd q (by decide))
                  refine lv_iload hx hb d_p15m30_221 (lv_at hl 1 rfl) ?_
                  refine lv_iconst (v := nI 2) hx hb d_p15m30_223 (by decide) ?_
                  refine pd_jne (tgt := 247) hx hb d_p15m30_224 (by decide) (by decide) (by decide) (fun _ => ?_) (fun q => absurd q (by decide))
                  have hn4 : ¬ ((R j106).2.1 = true ∨ gr_pc R none = true ∨ gr_pc R none = true ∨ (¬ (none : Option Nat) = none ∧ (none : Option Nat) = none)) := by simp [gr_pc, q122]
                  refine lv_aload_n hx hb d_p15m30_247 rfl (lv_at hl 4 rfl) ?_
                  refine pd_get X w hy0 rfl 12 (by decide) mT_1151 rfl rfl d_p15m30_248 ?_
                  refine pd_top (v' := .int (nI n)) (congrArg Value.int hiv12) ?_
                  refine lv_bipush (v := nI 14) hx hb d_p15m30_251 (by decide) ?_
                  refine pd_jne (tgt := 259) hx hb d_p15m30_253 (by decide) (by omega) (by omega) (fun q125 => ?_) (fun q125 => ?_)
                  · -- taken: 259
                    refine lv_aload_n hx hb d_p15m30_259 rfl (lv_at hl 4 rfl) ?_
                    refine pd_get X w hy0 rfl 12 (by decide) mT_1151 rfl rfl d_p15m30_260 ?_
                    refine pd_top (v' := .int (nI n)) (congrArg Value.int hiv12) ?_
                    refine lv_istore (lv' := [(6, .int (nI n)), (5, .int (nI 0)), (4, .int (nI 4)), (3, .int (nI j106)), (0, .ref y), (1, .int (nI 4)), (2, .int (nI 0))]) hx hb d_p15m30_263 hl (by decide) rfl (fun ls hl => ?_)
                    refine lv_iconst (v := nI 0) hx hb d_p15m30_265 (by decide) ?_
                    refine lv_istore (lv' := [(7, .int (nI 0)), (6, .int (nI n)), (5, .int (nI 0)), (4, .int (nI 4)), (3, .int (nI j106)), (0, .ref y), (1, .int (nI 4)), (2, .int (nI 0))]) hx hb d_p15m30_266 hl (by decide) rfl (fun ls hl => ?_)
                    refine lv_iload hx hb d_p15m30_268 (lv_at hl 0 rfl) ?_
                    refine lv_iload hx hb d_p15m30_270 (lv_at hl 2 rfl) ?_
                    refine pd_jge (tgt := 302) hx hb d_p15m30_272 (by decide) (by decide) (by decide) (fun _ => ?_) (fun q => absurd q (by decide))
                    have hwl1 := (hW.2 1 (by omega)).2.2
                    have hdc : gr_dc n R cs false 4 = gr_cadd n R (gr_row R n (gr_w cs 1) false (some j106) none none) := by have z9 := gr_dc_r (n := n) (R := R) (cs := cs) (bi := false) (ff := 4) (i := j106) (by rw [hup, hfa, hfb, gr_hd_s, if_neg hnl, if_neg (fun y => y hq1), if_neg hn4]); rw [hfa, hfb] at z9; exact z9
                    refine lv_aload_n hx hb d_p15m30_302 rfl (lv_at hl 5 rfl) ?_
                    refine pd_get X w hy0 rfl 10 (by decide) mT_1149 rfl rfl d_p15m30_303 ?_
                    refine lv_iload hx hb d_p15m30_306 (lv_at hl 1 rfl) ?_
                    refine lv_iload hx hb d_p15m30_308 (lv_at hl 2 rfl) ?_
                    refine pd_iast X w ha10 (hMO.2.2 10 (by decide)).2 (by omega) (by omega) d_p15m30_310 (fun H locs w => ?_)
                    have w : pd_w G s H locs (pd_up h (ad 10) (40, .inl (.int, 14, .inl (upd (fv 10) n (nI 0))))) := w
                    obtain ⟨h127, u130⟩ : ∃ z, z = pd_up h (ad 10) (40, .inl (.int, 14, .inl (upd (fv 10) n (nI 0)))) := ⟨_, rfl⟩
                    rw [← u130] at w
                    have k128 : pd_kq (ad 10) h h127 := by rw [u130]; exact pd_up_kq
                    have f129 : h127 (ad 10) = some (40, .inl (.int, 14, .inl (upd (fv 10) n (nI 0)))) := by rw [u130]; exact pd_up_s _ _ _
                    have f131 := k128 _ _ (pd_ne hy0 ha10 (by simp)) hy0
                    have f132 := k128 _ _ (pd_ne ha0 ha10 (by simp)) ha0
                    have f133 := k128 _ _ (pd_ne ha1 ha10 (by simp)) ha1
                    have f134 := k128 _ _ (pd_ne ha2 ha10 (by simp)) ha2
                    have f135 := k128 _ _ (pd_ne ha6 ha10 (by simp)) ha6
                    have f136 := k128 _ _ (pd_ne ha7 ha10 (by simp)) ha7
                    have f137 := k128 _ _ (pd_ne ha8 ha10 (by simp)) ha8
                    have f138 := k128 _ _ (pd_ne ha9 ha10 (by simp)) ha9
                    have f139 := k128 _ _ (pd_ne ha11 ha10 (by simp)) ha11
                    refine lv_aload_n hx hb d_p15m30_311 rfl (lv_at hl 5 rfl) ?_
                    refine pd_get X w f131 rfl 8 (by decide) mT_1147 rfl rfl d_p15m30_312 ?_
                    refine lv_iload hx hb d_p15m30_315 (lv_at hl 1 rfl) ?_
                    refine lv_iload_n hx hb d_p15m30_317 rfl (lv_at hl 4 rfl) ?_
                    refine pd_iast X w f137 (hMO.2.2 8 (by decide)).2 (by omega) (by omega) d_p15m30_318 (fun H locs w => ?_)
                    have w : pd_w G s H locs (pd_up h127 (ad 8) (38, .inl (.int, 14, .inl (upd (fv 8) n (nI j106))))) := w
                    obtain ⟨h140, u143⟩ : ∃ z, z = pd_up h127 (ad 8) (38, .inl (.int, 14, .inl (upd (fv 8) n (nI j106)))) := ⟨_, rfl⟩
                    rw [← u143] at w
                    have k141 : pd_kq (ad 8) h127 h140 := by rw [u143]; exact pd_up_kq
                    have f142 : h140 (ad 8) = some (38, .inl (.int, 14, .inl (upd (fv 8) n (nI j106)))) := by rw [u143]; exact pd_up_s _ _ _
                    have f144 := k141 _ _ (pd_ne f131 f137 (by simp)) f131
                    have f145 := k141 _ _ (pd_ne f132 f137 (by simp)) f132
                    have f146 := k141 _ _ (pd_ne f133 f137 (by simp)) f133
                    have f147 := k141 _ _ (pd_ne f134 f137 (by simp)) f134
                    have f148 := k141 _ _ (pd_ne f135 f137 (by simp)) f135
                    have f149 := k141 _ _ (pd_ne f136 f137 (by simp)) f136
                    have f150 := k141 _ _ (pd_ne f138 f137 (by simp)) f138
                    have f151 := k141 _ _ (pd_ne f139 f137 (by simp)) f139
                    have f152 := k141 _ _ (pd_ne f129 f137 (by simp)) f129
                    refine lv_aload_n hx hb d_p15m30_319 rfl (lv_at hl 5 rfl) ?_
                    refine pd_get X w f144 rfl 11 (by decide) mT_1150 rfl rfl d_p15m30_320 ?_
                    refine lv_iload hx hb d_p15m30_323 (lv_at hl 1 rfl) ?_
                    refine lv_iload_n hx hb d_p15m30_325 rfl (lv_at hl 7 rfl) ?_
                    refine pd_zast (z := (nI 0)) X w f151 (hMO.2.2 11 (by decide)).2 (by omega) (by omega) (by decide) d_p15m30_326 (fun H locs w => ?_)
                    have w : pd_w G s H locs (pd_up h140 (ad 11) (41, .inl (.boolean, 14, .inl (upd (fv 11) n (nI 0))))) := w
                    obtain ⟨h153, u156⟩ : ∃ z, z = pd_up h140 (ad 11) (41, .inl (.boolean, 14, .inl (upd (fv 11) n (nI 0)))) := ⟨_, rfl⟩
                    rw [← u156] at w
                    have k154 : pd_kq (ad 11) h140 h153 := by rw [u156]; exact pd_up_kq
                    have f155 : h153 (ad 11) = some (41, .inl (.boolean, 14, .inl (upd (fv 11) n (nI 0)))) := by rw [u156]; exact pd_up_s _ _ _
                    have f157 := k154 _ _ (pd_ne f144 f151 (by simp)) f144
                    have f158 := k154 _ _ (pd_ne f145 f151 (by simp)) f145
                    have f159 := k154 _ _ (pd_ne f146 f151 (by simp)) f146
                    have f160 := k154 _ _ (pd_ne f147 f151 (by simp)) f147
                    have f161 := k154 _ _ (pd_ne f148 f151 (by simp)) f148
                    have f162 := k154 _ _ (pd_ne f149 f151 (by simp)) f149
                    have f163 := k154 _ _ (pd_ne f150 f151 (by simp)) f150
                    have f164 := k154 _ _ (pd_ne f152 f151 (by simp)) f152
                    have f165 := k154 _ _ (pd_ne f142 f151 (by simp)) f142
                    refine lv_aload_n hx hb d_p15m30_327 rfl (lv_at hl 5 rfl) ?_
                    refine pd_get X w f157 rfl 7 (by decide) mT_1146 rfl rfl d_p15m30_328 ?_
                    refine lv_iload hx hb d_p15m30_331 (lv_at hl 1 rfl) ?_
                    refine lv_aload_n hx hb d_p15m30_333 rfl (lv_at hl 5 rfl) ?_
                    refine pd_get X w f157 rfl 2 (by decide) mT_1141 rfl rfl d_p15m30_334 ?_
                    refine lv_iconst (v := nI 1) hx hb d_p15m30_337 (by decide) ?_
                    refine pd_iald X w f160 (by omega) (by omega) d_p15m30_338 ?_
                    refine pd_top (v' := .int (nI (eA 1))) (congrArg Value.int (hW.2 1 (by omega)).2.1) ?_
                    refine lv_aload_n hx hb d_p15m30_339 rfl (lv_at hl 5 rfl) ?_
                    refine pd_get X w f157 rfl 1 (by decide) mT_1140 rfl rfl d_p15m30_340 ?_
                    refine lv_iconst (v := nI 1) hx hb d_p15m30_343 (by decide) ?_
                    refine pd_iald X w f159 (by omega) (by omega) d_p15m30_344 ?_
                    refine pd_top (v' := .int (nI (sA 1))) (congrArg Value.int (hW.2 1 (by omega)).1) ?_
                    refine pd_isub hx hb d_p15m30_345 (by omega) ?_
                    refine pd_iast X w f162 (hMO.2.2 7 (by decide)).2 (by omega) (by omega) d_p15m30_346 (fun H locs w => ?_)
                    have w : pd_w G s H locs (pd_up h153 (ad 7) (37, .inl (.int, 14, .inl (upd (fv 7) n (nI ((eA 1) - (sA 1))))))) := w
                    obtain ⟨h166, u169⟩ : ∃ z, z = pd_up h153 (ad 7) (37, .inl (.int, 14, .inl (upd (fv 7) n (nI ((eA 1) - (sA 1)))))) := ⟨_, rfl⟩
                    rw [← u169] at w
                    have k167 : pd_kq (ad 7) h153 h166 := by rw [u169]; exact pd_up_kq
                    have f168 : h166 (ad 7) = some (37, .inl (.int, 14, .inl (upd (fv 7) n (nI ((eA 1) - (sA 1)))))) := by rw [u169]; exact pd_up_s _ _ _
                    have f170 := k167 _ _ (pd_ne f157 f162 (by simp)) f157
                    have f171 := k167 _ _ (pd_ne f158 f162 (by simp)) f158
                    have f172 := k167 _ _ (pd_ne f159 f162 (by simp)) f159
                    have f173 := k167 _ _ (pd_ne f160 f162 (by simp)) f160
                    have f174 := k167 _ _ (pd_ne f161 f162 (by simp)) f161
                    have f175 := k167 _ _ (pd_ne f163 f162 (by simp)) f163
                    have f176 := k167 _ _ (pd_ne f164 f162 (by simp)) f164
                    have f177 := k167 _ _ (pd_ne f165 f162 (by simp)) f165
                    have f178 := k167 _ _ (pd_ne f155 f162 (by simp)) f155
                    refine lv_iconst (v := nI 0) hx hb d_p15m30_347 (by decide) ?_
                    refine lv_istore (lv' := [(7, .int (nI 0)), (6, .int (nI n)), (5, .int (nI 0)), (4, .int (nI 4)), (3, .int (nI j106)), (0, .ref y), (1, .int (nI 4)), (2, .int (nI 0))]) hx hb d_p15m30_348 hl (by decide) rfl (fun ls hl => ?_)
                    have mo179 : pd_MO G h166 y ad (pd_fu (pd_fu (pd_fu (pd_fu fv 7 (upd (fv 7) n (nI ((eA 1) - (sA 1))))) 8 (upd (fv 8) n (nI j106))) 10 (upd (fv 10) n (nI 0))) 11 (upd (fv 11) n (nI 0))) iv tl := pd_MO.of (ts := [40, 38, 41, 37]) hMO (pd_kx.tr (pd_kx.mono (us := [40, 38, 41, 37]) (pd_kx.tr (pd_kx.mono (us := [40, 38, 41]) (pd_kx.tr (pd_kx.mono (us := [40, 38]) (pd_kq.kx (k128) ha10) (by simp)) (pd_kx.mono (us := [40, 38]) (pd_kq.kx (k141) f137) (by simp))) (by simp)) (pd_kx.mono (us := [40, 38, 41]) (pd_kq.kx (k154) f151) (by simp))) (by simp)) (pd_kx.mono (us := [40, 38, 41, 37]) (pd_kq.kx (k167) f162) (by simp))) f170 (fun j hj => if e7 : j = 7 then by subst e7; exact Or.inl f168 else if e8 : j = 8 then by subst e8; exact Or.inl f177 else if e10 : j = 10 then by subst e10; exact Or.inl f176 else if e11 : j = 11 then by subst e11; exact Or.inl f178 else Or.inr ⟨fun z => by first | (simp at z; done) | (simp at z; omega), by rw [pd_fu_n e11, pd_fu_n e10, pd_fu_n e8, pd_fu_n e7]⟩)
                    exact lp_Mod_declareC_350 l G h hMO hL hC hW hcut hwd hgn X hmn (100 + 1) 0 j106 0 4 none none (fv 6) (fv 9) h166 (pd_kx.mono (us := [20, 36, 37, 38, 39, 40, 41]) (pd_kx.tr (pd_kx.mono (us := [40, 38, 41, 37]) (pd_kx.tr (pd_kx.mono (us := [40, 38, 41]) (pd_kx.tr (pd_kx.mono (us := [40, 38]) (pd_kq.kx (k128) ha10) (by simp)) (pd_kx.mono (us := [40, 38]) (pd_kq.kx (k141) f137) (by simp))) (by simp)) (pd_kx.mono (us := [40, 38, 41]) (pd_kq.kx (k154) f151) (by simp))) (by simp)) (pd_kx.mono (us := [40, 38, 41, 37]) (pd_kq.kx (k167) f162) (by simp))) (by simp)) ((pd_MO.ext (fv2 := pd_fu (pd_fu (pd_fu (pd_fu (pd_fu (pd_fu fv 6 (fv 6)) 7 (upd (fv 7) n (nI ((eA 1) - (sA 1))))) 8 (upd (fv 8) n (nI j106))) 9 (fv 9)) 10 (upd (fv 10) n (nI 0))) 11 (upd (fv 11) n (nI 0))) (iv2 := iv) mo179 (fun j9 hj9 => by by_cases e906 : j9 = 6; subst e906; rfl; by_cases e907 : j9 = 7; subst e907; rfl; by_cases e908 : j9 = 8; subst e908; rfl; by_cases e909 : j9 = 9; subst e909; rfl; by_cases e910 : j9 = 10; subst e910; rfl; by_cases e911 : j9 = 11; subst e911; rfl; simp only [pd_fu, if_neg e906, if_neg e907, if_neg e908, if_neg e909, if_neg e910, if_neg e911]) rfl)) (hcd) (hdc) (rfl) (fun t ht => by exact absurd ht (by simp)) (fun x hx => by rfl) (by simp) (by omega) (by omega) (fun t ht => absurd ht (Nat.not_lt_zero t)) (fun _ _ => rfl) (by omega) _ _ w ls (lv_sub hl [0, 1, 2, 3, 4, 5, 6, 7] rfl)
                  · -- not taken: 256
                    refine lv_bipush (v := -5) hx hb d_p15m30_256 (by decide) ?_
                    have hg : gr_dc n R cs false 4 = (-5, n, R) := by have z9 := gr_dc_r (n := n) (R := R) (cs := cs) (bi := false) (ff := 4) (i := j106) (by rw [hup, hfa, hfb, gr_hd_s, if_neg hnl, if_neg (fun y => y hq1), if_neg hn4]); rw [z9, gr_cadd_n (by omega)]
                    exact pd_iret (v := (-5)) X w (Or.inr ⟨hcd, by rw [hg], pd_kx.rf, fv, iv, hMO, ⟨fun _ _ => rfl, fun _ _ => rfl⟩, (by rw [hg]; exact hC)⟩) (by decide) (by decide) d_p15m30_258
                · -- not taken: 185
                  refine lv_bipush (v := -4) hx hb d_p15m30_185 (by decide) ?_
                  have hg : gr_dc n R cs false 4 = (-4, n, R) := gr_dc_l (by rw [hup, hfa, hfb, gr_hd_s, if_neg hnl, if_neg (fun y => y hq1), if_pos (by simp [gr_pc, q122])])
                  exact pd_iret (v := (-4)) X w (Or.inr ⟨hcd, by rw [hg], pd_kx.rf, fv, iv, hMO, ⟨fun _ _ => rfl, fun _ _ => rfl⟩, (by rw [hg]; exact hC)⟩) (by decide) (by decide) d_p15m30_187
              · -- some: 127
                rw [q112] at e111
                have j113lt := gr_fi_lt e111.symm
                have hq1 : gr_find R n (gr_w cs 1) = some j113 := by rw [← hwk 1 (by omega)]; exact e111.symm
                refine lv_bipush (v := -3) hx hb d_p15m30_127 (by decide) ?_
                have hg : gr_dc n R cs false 4 = (-3, n, R) := gr_dc_l (by rw [hup, hfa, hfb, gr_hd_s, if_neg hnl, if_pos (by rw [hq1]; simp)])
                exact pd_iret (v := (-3)) X w (Or.inr ⟨hcd, by rw [hg], pd_kx.rf, fv, iv, hMO, ⟨fun _ _ => rfl, fun _ _ => rfl⟩, (by rw [hg]; exact hC)⟩) (by decide) (by decide) d_p15m30_129
          · -- not taken: 87
            refine lv_iconst (v := -1) hx hb d_p15m30_87 (by decide) ?_
            exact pd_iret (v := (-1)) X w (Or.inl ⟨(fun z => of_decide_eq_false (e97.symm.trans q98) (z.2.2.2 3 (by omega) (by omega))), rfl, rfl⟩) (by decide) (by decide) d_p15m30_88
        · -- not taken: 70
          refine lv_iconst (v := -1) hx hb d_p15m30_70 (by decide) ?_
          exact pd_iret (v := (-1)) X w (Or.inl ⟨(fun z => by have z1 := z.2.2.1 (by omega); omega), rfl, rfl⟩) (by decide) (by decide) d_p15m30_71
  · -- nw = 5
    have hl : lv_has ls 8 [(0, .ref y), (1, .int (nI 5)), (2, .int (nI 0))] := hl
    refine lv_iload_n hx hb d_p15m30_0 rfl (lv_at hl 1 rfl) ?_
    refine lv_iconst (v := nI 2) hx hb d_p15m30_1 (by decide) ?_
    refine pd_jlt (tgt := 70) hx hb d_p15m30_2 (by decide) (by decide) (by decide) (fun q => absurd q (by decide)) (fun _ => ?_)
    refine lv_iload_n hx hb d_p15m30_5 rfl (lv_at hl 1 rfl) ?_
    refine lv_iconst (v := nI 3) hx hb d_p15m30_6 (by decide) ?_
    refine pd_jeq (tgt := 70) hx hb d_p15m30_7 (by decide) (by decide) (by decide) (fun q => absurd q (by decide)) (fun _ => ?_)
    refine lv_iload_n hx hb d_p15m30_10 rfl (lv_at hl 1 rfl) ?_
    refine lv_iload_n hx hb d_p15m30_11 rfl (lv_at hl 2 rfl) ?_
    refine pd_zeq (tgt := 19) hx hb d_p15m30_12 (by decide) (by decide) (fun _ => ?_) (fun q => absurd q (by decide))
    refine lv_bipush (v := nI 6) hx hb d_p15m30_19 (by decide) ?_
    refine pd_jgt (tgt := 70) hx hb d_p15m30_21 (by decide) (by decide) (by decide) (fun q => absurd q (by decide)) (fun _ => ?_)
    refine lv_aload_n hx hb d_p15m30_24 rfl (lv_at hl 0 rfl) ?_
    refine lv_iconst (v := nI 1) hx hb d_p15m30_25 (by decide) ?_
    refine pd_cV (a := y) (As := [.int (nI 1)]) (rest := []) X w hy0 rfl (c_Mod_isName l G h (cs := cs) (nw := 5) (sA := sA) (eA := eA) (ad := ad) (fv := fv) (iv := iv) (tl := tl) hMO hL hW (by omega)) ok_Mod_isName ⟨mT_1307, sT_17⟩ mT_1305 ⟨by decide, by decide⟩ rfl hl.1 rfl (Nat.le_of_ble_eq_true rfl) d_p15m30_26 ⟨by decide, by decide⟩ (fun r184 h185 H locs hp186 w => ?_)
    refine W.widen (k := 0) (n := 0) (by decide) (by decide) ?_
    obtain ⟨e187, rfl⟩ := hp186
    refine pd_beq (tgt := 70) hx hb d_p15m30_29 (by decide) (fun q188 => ?_) (fun q188 => ?_)
    · -- taken: 70
      refine lv_iconst (v := -1) hx hb d_p15m30_70 (by decide) ?_
      exact pd_iret (v := (-1)) X w (Or.inl ⟨(fun z => of_decide_eq_false (e187.symm.trans q188) z.2.1), rfl, rfl⟩) (by decide) (by decide) d_p15m30_71
    · -- not taken: 32
      have hnm1 : gm_name cs (sA 1) (eA 1) = eA 1 := of_decide_eq_true (e187.symm.trans q188)
      refine lv_iload_n hx hb d_p15m30_32 rfl (lv_at hl 1 rfl) ?_
      refine lv_iconst (v := nI 3) hx hb d_p15m30_33 (by decide) ?_
      refine pd_jle (tgt := 72) hx hb d_p15m30_34 (by decide) (by decide) (by decide) (fun q => absurd q (by decide)) (fun _ => ?_)
      have hwl2 := (hW.2 2 (by omega)).2.2
      refine lv_aload_n hx hb d_p15m30_37 rfl (lv_at hl 0 rfl) ?_
      refine pd_get X w hy0 rfl 2 (by decide) mT_1141 rfl rfl d_p15m30_38 ?_
      refine lv_iconst (v := nI 2) hx hb d_p15m30_41 (by decide) ?_
      refine pd_iald X w ha2 (by omega) (by omega) d_p15m30_42 ?_
      refine pd_top (v' := .int (nI (eA 2))) (congrArg Value.int (hW.2 2 (by omega)).2.1) ?_
      refine lv_aload_n hx hb d_p15m30_43 rfl (lv_at hl 0 rfl) ?_
      refine pd_get X w hy0 rfl 1 (by decide) mT_1140 rfl rfl d_p15m30_44 ?_
      refine lv_iconst (v := nI 2) hx hb d_p15m30_47 (by decide) ?_
      refine pd_iald X w ha1 (by omega) (by omega) d_p15m30_48 ?_
      refine pd_top (v' := .int (nI (sA 2))) (congrArg Value.int (hW.2 2 (by omega)).1) ?_
      refine pd_isub hx hb d_p15m30_49 (by omega) ?_
      refine lv_iconst (v := nI 1) hx hb d_p15m30_50 (by decide) ?_
      refine pd_jne (tgt := 70) hx hb d_p15m30_51 (by decide) (by omega) (by omega) (fun q190 => ?_) (fun q190 => ?_)
      · -- taken: 70
        refine lv_iconst (v := -1) hx hb d_p15m30_70 (by decide) ?_
        exact pd_iret (v := (-1)) X w (Or.inl ⟨(fun z => by have z1 := z.2.2.1 (by omega); omega), rfl, rfl⟩) (by decide) (by decide) d_p15m30_71
      · -- not taken: 54
        refine lv_aload_n hx hb d_p15m30_54 rfl (lv_at hl 0 rfl) ?_
        refine pd_get X w hy0 rfl 0 (by decide) mT_1139 rfl rfl d_p15m30_55 ?_
        refine lv_aload_n hx hb d_p15m30_58 rfl (lv_at hl 0 rfl) ?_
        refine pd_get X w hy0 rfl 1 (by decide) mT_1140 rfl rfl d_p15m30_59 ?_
        refine lv_iconst (v := nI 2) hx hb d_p15m30_62 (by decide) ?_
        refine pd_iald X w ha1 (by omega) (by omega) d_p15m30_63 ?_
        refine pd_top (v' := .int (nI (sA 2))) (congrArg Value.int (hW.2 2 (by omega)).1) ?_
        refine pd_iald X w ha0 (by omega) (by omega) d_p15m30_64 ?_
        refine pd_top (v' := .int (nI (cs.getD (sA 2) 0))) (congrArg Value.int (hln _ (by omega))) ?_
        have := tx_lt hlc (sA 2)
        refine lv_bipush (v := nI 58) hx hb d_p15m30_65 (by decide) ?_
        refine pd_jeq (tgt := 72) hx hb d_p15m30_67 (by decide) (by omega) (by omega) (fun q191 => ?_) (fun q191 => ?_)
        · -- taken: 72
          refine lv_iconst (v := nI 3) hx hb d_p15m30_72 (by decide) ?_
          refine lv_istore_n (lv' := [(3, .int (nI 3)), (0, .ref y), (1, .int (nI 5)), (2, .int (nI 0))]) hx hb d_p15m30_73 rfl hl (by decide) rfl (fun ls hl => ?_)
          refine lv_iload_n hx hb d_p15m30_74 rfl (lv_at hl 0 rfl) ?_
          refine lv_iload_n hx hb d_p15m30_75 rfl (lv_at hl 2 rfl) ?_
          refine pd_jge (tgt := 95) hx hb d_p15m30_76 (by decide) (by decide) (by decide) (fun q => absurd q (by decide)) (fun _ => ?_)
          refine lv_aload_n hx hb d_p15m30_79 rfl (lv_at hl 1 rfl) ?_
          refine lv_iload_n hx hb d_p15m30_80 rfl (lv_at hl 0 rfl) ?_
          refine pd_cV (a := y) (As := [.int (nI 3)]) (rest := []) X w hy0 rfl (c_Mod_isName l G h (cs := cs) (nw := 5) (sA := sA) (eA := eA) (ad := ad) (fv := fv) (iv := iv) (tl := tl) hMO hL hW (by omega)) ok_Mod_isName ⟨mT_1307, sT_17⟩ mT_1305 ⟨by decide, by decide⟩ rfl hl.1 rfl (Nat.le_of_ble_eq_true rfl) d_p15m30_81 ⟨by decide, by decide⟩ (fun r193 h194 H locs hp195 w => ?_)
          refine W.widen (k := 0) (n := 0) (by decide) (by decide) ?_
          obtain ⟨e196, rfl⟩ := hp195
          refine pd_bne (tgt := 89) hx hb d_p15m30_84 (by decide) (fun q197 => ?_) (fun q197 => ?_)
          · -- taken: 89
            have hnm3 : gm_name cs (sA 3) (eA 3) = eA 3 := of_decide_eq_true (e196.symm.trans q197)
            refine pd_iinc (k := 0) (d := 1) (lv' := [(3, .int (nI 4)), (0, .ref y), (1, .int (nI 5)), (2, .int (nI 0))]) hx hb d_p15m30_89 (by decide) hl rfl (by decide) rfl (fun ls hl => ?_)
            refine lv_goto (tgt := 74) hx hb d_p15m30_92 (by decide) ?_
            refine lv_iload_n hx hb d_p15m30_74 rfl (lv_at hl 0 rfl) ?_
            refine lv_iload_n hx hb d_p15m30_75 rfl (lv_at hl 2 rfl) ?_
            refine pd_jge (tgt := 95) hx hb d_p15m30_76 (by decide) (by decide) (by decide) (fun q => absurd q (by decide)) (fun _ => ?_)
            refine lv_aload_n hx hb d_p15m30_79 rfl (lv_at hl 1 rfl) ?_
            refine lv_iload_n hx hb d_p15m30_80 rfl (lv_at hl 0 rfl) ?_
            refine pd_cV (a := y) (As := [.int (nI 4)]) (rest := []) X w hy0 rfl (c_Mod_isName l G h (cs := cs) (nw := 5) (sA := sA) (eA := eA) (ad := ad) (fv := fv) (iv := iv) (tl := tl) hMO hL hW (by omega)) ok_Mod_isName ⟨mT_1307, sT_17⟩ mT_1305 ⟨by decide, by decide⟩ rfl hl.1 rfl (Nat.le_of_ble_eq_true rfl) d_p15m30_81 ⟨by decide, by decide⟩ (fun r199 h200 H locs hp201 w => ?_)
            refine W.widen (k := 0) (n := 0) (by decide) (by decide) ?_
            obtain ⟨e202, rfl⟩ := hp201
            refine pd_bne (tgt := 89) hx hb d_p15m30_84 (by decide) (fun q203 => ?_) (fun q203 => ?_)
            · -- taken: 89
              have hnm4 : gm_name cs (sA 4) (eA 4) = eA 4 := of_decide_eq_true (e202.symm.trans q203)
              refine pd_iinc (k := 0) (d := 1) (lv' := [(3, .int (nI 5)), (0, .ref y), (1, .int (nI 5)), (2, .int (nI 0))]) hx hb d_p15m30_89 (by decide) hl rfl (by decide) rfl (fun ls hl => ?_)
              refine lv_goto (tgt := 74) hx hb d_p15m30_92 (by decide) ?_
              refine lv_iload_n hx hb d_p15m30_74 rfl (lv_at hl 0 rfl) ?_
              refine lv_iload_n hx hb d_p15m30_75 rfl (lv_at hl 2 rfl) ?_
              refine pd_jge (tgt := 95) hx hb d_p15m30_76 (by decide) (by decide) (by decide) (fun _ => ?_) (fun q => absurd q (by decide))
              have hcd : (2 ≤ 5 ∧ ¬ 5 = 3 ∧ 5 ≤ 6) ∧ gm_name cs (sA 1) (eA 1) = eA 1 ∧ (3 < 5 → eA 2 - sA 2 = 1 ∧ cs.getD (sA 2) 0 = 58) ∧ ∀ t, 3 ≤ t → t < 5 → gm_name cs (sA t) (eA t) = eA t := ⟨⟨by omega, by omega, by omega⟩, hnm1, fun _ => ⟨by omega, by omega⟩, fun t h3 h5 => by rcases (show t = 3 ∨ t = 4 by omega) with rfl | rfl <;> assumption⟩
              have hcu : (gr_cut cs).1 = 5 := hcut (by omega)
              have hwk := hwd (by omega)
              refine lv_iconst (v := nI 3) hx hb d_p15m30_95 (by decide) ?_
              refine lv_istore_n (lv' := [(3, .int (nI 3)), (0, .ref y), (1, .int (nI 5)), (2, .int (nI 0))]) hx hb d_p15m30_96 rfl hl (by decide) rfl (fun ls hl => ?_)
              refine lv_iload_n hx hb d_p15m30_97 rfl (lv_at hl 0 rfl) ?_
              refine lv_iload_n hx hb d_p15m30_98 rfl (lv_at hl 2 rfl) ?_
              refine pd_jge (tgt := 119) hx hb d_p15m30_99 (by decide) (by decide) (by decide) (fun q => absurd q (by decide)) (fun _ => ?_)
              refine lv_aload_n hx hb d_p15m30_102 rfl (lv_at hl 1 rfl) ?_
              refine lv_iload_n hx hb d_p15m30_103 rfl (lv_at hl 0 rfl) ?_
              refine pd_cV (a := y) (As := [.int (nI 3)]) (rest := []) X w hy0 rfl (c_Mod_classOf l G h (cs := cs) (nw := 5) (sA := sA) (eA := eA) (n := n) (R := R) (ad := ad) (fv := fv) (iv := iv) (tl := tl) hMO hL hW (by omega) hC) ok_Mod_classOf ⟨mT_1322, sT_20⟩ mT_1320 ⟨by decide, by decide⟩ rfl hl.1 rfl (Nat.le_of_ble_eq_true rfl) d_p15m30_104 ⟨by decide, by decide⟩ (fun r206 h207 H locs hp208 w => ?_)
              refine W.widen (k := 0) (n := 0) (by decide) (by decide) ?_
              obtain ⟨e209, rfl⟩ := hp208
              refine pd_mge (tgt := 113) hx hb d_p15m30_107 (by decide) (fun x hx => by have z := gr_fi_lt (e209.symm.trans hx); omega) (fun q210 => ?_) (fun j211 q210 => ?_)
              · -- none: 110
                rw [q210] at e209
                have hq3 : gr_find R n (gr_w cs 3) = none := by rw [← hwk 3 (by omega)]; exact e209.symm
                refine lv_bipush (v := -2) hx hb d_p15m30_110 (by decide) ?_
                have hup : gr_up n R cs false = none := by unfold gr_up; rw [if_pos ⟨rfl, by omega⟩]; exact hq3
                have hg : gr_dc n R cs false 4 = (-2, n, R) := gr_dc_l (by rw [hup]; rfl)
                exact pd_iret (v := (-2)) X w (Or.inr ⟨hcd, by rw [hg], pd_kx.rf, fv, iv, hMO, ⟨fun _ _ => rfl, fun _ _ => rfl⟩, (by rw [hg]; exact hC)⟩) (by decide) (by decide) d_p15m30_112
              · -- some: 113
                rw [q210] at e209
                have j211lt := gr_fi_lt e209.symm
                have hq3 : gr_find R n (gr_w cs 3) = some j211 := by rw [← hwk 3 (by omega)]; exact e209.symm
                refine pd_iinc (k := 0) (d := 1) (lv' := [(3, .int (nI 4)), (0, .ref y), (1, .int (nI 5)), (2, .int (nI 0))]) hx hb d_p15m30_113 (by decide) hl rfl (by decide) rfl (fun ls hl => ?_)
                refine lv_goto (tgt := 97) hx hb d_p15m30_116 (by decide) ?_
                refine lv_iload_n hx hb d_p15m30_97 rfl (lv_at hl 0 rfl) ?_
                refine lv_iload_n hx hb d_p15m30_98 rfl (lv_at hl 2 rfl) ?_
                refine pd_jge (tgt := 119) hx hb d_p15m30_99 (by decide) (by decide) (by decide) (fun q => absurd q (by decide)) (fun _ => ?_)
                refine lv_aload_n hx hb d_p15m30_102 rfl (lv_at hl 1 rfl) ?_
                refine lv_iload_n hx hb d_p15m30_103 rfl (lv_at hl 0 rfl) ?_
                refine pd_cV (a := y) (As := [.int (nI 4)]) (rest := []) X w hy0 rfl (c_Mod_classOf l G h (cs := cs) (nw := 5) (sA := sA) (eA := eA) (n := n) (R := R) (ad := ad) (fv := fv) (iv := iv) (tl := tl) hMO hL hW (by omega) hC) ok_Mod_classOf ⟨mT_1322, sT_20⟩ mT_1320 ⟨by decide, by decide⟩ rfl hl.1 rfl (Nat.le_of_ble_eq_true rfl) d_p15m30_104 ⟨by decide, by decide⟩ (fun r213 h214 H locs hp215 w => ?_)
                refine W.widen (k := 0) (n := 0) (by decide) (by decide) ?_
                obtain ⟨e216, rfl⟩ := hp215
                refine pd_mge (tgt := 113) hx hb d_p15m30_107 (by decide) (fun x hx => by have z := gr_fi_lt (e216.symm.trans hx); omega) (fun q217 => ?_) (fun j218 q217 => ?_)
                · -- none: 110
                  rw [q217] at e216
                  have hq4 : gr_find R n (gr_w cs 4) = none := by rw [← hwk 4 (by omega)]; exact e216.symm
                  refine lv_bipush (v := -2) hx hb d_p15m30_110 (by decide) ?_
                  have hup : gr_up n R cs false = some j211 := by unfold gr_up; rw [if_pos ⟨rfl, by omega⟩]; exact hq3
                  have hg : gr_dc n R cs false 4 = (-2, n, R) := gr_dc_l (by rw [hup, gr_hd_s, if_pos (Or.inl ⟨hq4, by omega⟩)])
                  exact pd_iret (v := (-2)) X w (Or.inr ⟨hcd, by rw [hg], pd_kx.rf, fv, iv, hMO, ⟨fun _ _ => rfl, fun _ _ => rfl⟩, (by rw [hg]; exact hC)⟩) (by decide) (by decide) d_p15m30_112
                · -- some: 113
                  rw [q217] at e216
                  have j218lt := gr_fi_lt e216.symm
                  have hq4 : gr_find R n (gr_w cs 4) = some j218 := by rw [← hwk 4 (by omega)]; exact e216.symm
                  refine pd_iinc (k := 0) (d := 1) (lv' := [(3, .int (nI 5)), (0, .ref y), (1, .int (nI 5)), (2, .int (nI 0))]) hx hb d_p15m30_113 (by decide) hl rfl (by decide) rfl (fun ls hl => ?_)
                  refine lv_goto (tgt := 97) hx hb d_p15m30_116 (by decide) ?_
                  refine lv_iload_n hx hb d_p15m30_97 rfl (lv_at hl 0 rfl) ?_
                  refine lv_iload_n hx hb d_p15m30_98 rfl (lv_at hl 2 rfl) ?_
                  refine pd_jge (tgt := 119) hx hb d_p15m30_99 (by decide) (by decide) (by decide) (fun _ => ?_) (fun q => absurd q (by decide))
                  have hup : gr_up n R cs false = some j211 := by unfold gr_up; rw [if_pos ⟨rfl, by omega⟩]; exact hq3
                  have hfa : gr_find R n (gr_w cs 4) = some j218 := hq4
                  have hfb : gr_find R n (gr_w cs 5) = none := gm_find_w hC (by omega)
                  have hnl : ¬ ((some j218 = none ∧ 4 < (gr_cut cs).1) ∨ ((none : Option Nat) = none ∧ 5 < (gr_cut cs).1)) := by rw [hcu]; simp
                  refine lv_aload_n hx hb d_p15m30_119 rfl (lv_at hl 1 rfl) ?_
                  refine lv_iconst (v := nI 1) hx hb d_p15m30_120 (by decide) ?_
                  refine pd_cV (a := y) (As := [.int (nI 1)]) (rest := []) X w hy0 rfl (c_Mod_classOf l G h (cs := cs) (nw := 5) (sA := sA) (eA := eA) (n := n) (R := R) (ad := ad) (fv := fv) (iv := iv) (tl := tl) hMO hL hW (by omega) hC) ok_Mod_classOf ⟨mT_1322, sT_20⟩ mT_1320 ⟨by decide, by decide⟩ rfl hl.1 rfl (Nat.le_of_ble_eq_true rfl) d_p15m30_121 ⟨by decide, by decide⟩ (fun r220 h221 H locs hp222 w => ?_)
                  refine W.widen (k := 0) (n := 0) (by decide) (by decide) ?_
                  obtain ⟨e223, rfl⟩ := hp222
                  refine pd_mlt (tgt := 130) hx hb d_p15m30_124 (by decide) (fun x hx => by have z := gr_fi_lt (e223.symm.trans hx); omega) (fun q224 => ?_) (fun j225 q224 => ?_)
                  · -- none: 130
                    rw [q224] at e223
                    have hq1 : gr_find R n (gr_w cs 1) = none := by rw [← hwk 1 (by omega)]; exact e223.symm
                    refine lv_iload_n hx hb d_p15m30_130 rfl (lv_at hl 3 rfl) ?_
                    refine pd_zne (tgt := 147) hx hb d_p15m30_131 (by decide) (by decide) (fun q => absurd q (by decide)) (fun _ => ?_)
                    refine lv_iload_n hx hb d_p15m30_134 rfl (lv_at hl 2 rfl) ?_
                    refine lv_iconst (v := nI 3) hx hb d_p15m30_135 (by decide) ?_
                    refine pd_jle (tgt := 147) hx hb d_p15m30_136 (by decide) (by decide) (by decide) (fun q => absurd q (by decide)) (fun _ => ?_)
                    refine lv_aload_n hx hb d_p15m30_139 rfl (lv_at hl 1 rfl) ?_
                    refine lv_iconst (v := nI 3) hx hb d_p15m30_140 (by decide) ?_
                    refine pd_cV (a := y) (As := [.int (nI 3)]) (rest := []) X w hy0 rfl (c_Mod_classOf l G h (cs := cs) (nw := 5) (sA := sA) (eA := eA) (n := n) (R := R) (ad := ad) (fv := fv) (iv := iv) (tl := tl) hMO hL hW (by omega) hC) ok_Mod_classOf ⟨mT_1322, sT_20⟩ mT_1320 ⟨by decide, by decide⟩ rfl hl.1 rfl (Nat.le_of_ble_eq_true rfl) d_p15m30_141 ⟨by decide, by decide⟩ (fun r228 h229 H locs hp230 w => ?_)
                    refine W.widen (k := 0) (n := 0) (by decide) (by decide) ?_
                    obtain ⟨e231, rfl⟩ := hp230
                    refine pd_top (v' := .int (nI j211)) (congrArg Value.int (by rw [e231, hwk 3 (by omega), hq3]; rfl)) ?_
                    refine lv_goto (tgt := 148) hx hb d_p15m30_144 (by decide) ?_
                    refine lv_istore_n (lv' := [(3, .int (nI j211)), (0, .ref y), (1, .int (nI 5)), (2, .int (nI 0))]) hx hb d_p15m30_148 rfl hl (by decide) rfl (fun ls hl => ?_)
                    refine lv_iload_n hx hb d_p15m30_149 rfl (lv_at hl 3 rfl) ?_
                    refine pd_zeq (tgt := 157) hx hb d_p15m30_150 (by decide) (by decide) (fun _ => ?_) (fun q => absurd q (by decide))
                    refine lv_iconst (v := nI 4) hx hb d_p15m30_157 (by decide) ?_
                    refine lv_istore (lv' := [(4, .int (nI 4)), (3, .int (nI j211)), (0, .ref y), (1, .int (nI 5)), (2, .int (nI 0))]) hx hb d_p15m30_158 hl (by decide) rfl (fun ls hl => ?_)
                    refine lv_iload_n hx hb d_p15m30_160 rfl (lv_at hl 3 rfl) ?_
                    refine lv_iload hx hb d_p15m30_161 (lv_at hl 0 rfl) ?_
                    refine pd_jle (tgt := 173) hx hb d_p15m30_163 (by decide) (by decide) (by decide) (fun q => absurd q (by decide)) (fun _ => ?_)
                    refine lv_iload_n hx hb d_p15m30_166 rfl (lv_at hl 3 rfl) ?_
                    refine lv_iload hx hb d_p15m30_167 (lv_at hl 0 rfl) ?_
                    refine pd_isub hx hb d_p15m30_169 (by omega) ?_
                    refine lv_goto (tgt := 174) hx hb d_p15m30_170 (by decide) ?_
                    refine lv_istore (lv' := [(5, .int (nI 1)), (4, .int (nI 4)), (3, .int (nI j211)), (0, .ref y), (1, .int (nI 5)), (2, .int (nI 0))]) hx hb d_p15m30_174 hl (by decide) rfl (fun ls hl => ?_)
                    refine lv_aload_n hx hb d_p15m30_176 rfl (lv_at hl 3 rfl) ?_
                    refine pd_get X w hy0 rfl 11 (by decide) mT_1150 rfl rfl d_p15m30_177 ?_
                    refine lv_iload_n hx hb d_p15m30_180 rfl (lv_at hl 2 rfl) ?_
                    refine pd_zald X w ha11 (by omega) (by omega) d_p15m30_181 ?_
                    refine pd_top (v' := .int (pd_b ((R j211).2.1))) (congrArg Value.int (hCc j211 (by omega)).2.2.2.2.2.1) ?_
                    refine pd_beq (tgt := 188) hx hb d_p15m30_182 (by decide) (fun q234 => ?_) (fun q234 => ?_)
                    · -- taken: 188
                      refine lv_iload hx hb d_p15m30_188 (lv_at hl 1 rfl) ?_
                      refine lv_istore (lv' := [(6, .int (nI 4)), (5, .int (nI 1)), (4, .int (nI 4)), (3, .int (nI j211)), (0, .ref y), (1, .int (nI 5)), (2, .int (nI 0))]) hx hb d_p15m30_190 hl (by decide) rfl (fun ls hl => ?_)
                      refine lv_iload hx hb d_p15m30_192 (lv_at hl 0 rfl) ?_
                      refine lv_iload_n hx hb d_p15m30_194 rfl (lv_at hl 5 rfl) ?_
                      refine pd_jge (tgt := 221) hx hb d_p15m30_195 (by decide) (by decide) (by decide) (fun q => absurd q (by decide)) (fun _ => ?_)
                      refine lv_aload_n hx hb d_p15m30_198 rfl (lv_at hl 4 rfl) ?_
                      refine pd_get X w hy0 rfl 11 (by decide) mT_1150 rfl rfl d_p15m30_199 ?_
                      refine lv_aload_n hx hb d_p15m30_202 rfl (lv_at hl 4 rfl) ?_
                      refine lv_iload hx hb d_p15m30_203 (lv_at hl 0 rfl) ?_
                      refine pd_cV (a := y) (As := [.int (nI 4)]) (rest := [.ref (ad 11)]) X w hy0 rfl (c_Mod_classOf l G h (cs := cs) (nw := 5) (sA := sA) (eA := eA) (n := n) (R := R) (ad := ad) (fv := fv) (iv := iv) (tl := tl) hMO hL hW (by omega) hC) ok_Mod_classOf ⟨mT_1322, sT_20⟩ mT_1320 ⟨by decide, by decide⟩ rfl hl.1 rfl (Nat.le_of_ble_eq_true rfl) d_p15m30_205 ⟨by decide, by decide⟩ (fun r236 h237 H locs hp238 w => ?_)
                      refine W.widen (k := 0) (n := 0) (by decide) (by decide) ?_
                      obtain ⟨e239, rfl⟩ := hp238
                      refine pd_top (v' := .int (nI j218)) (congrArg Value.int (by rw [e239, hwk 4 (by omega), hq4]; rfl)) ?_
                      refine pd_zald X w ha11 (by omega) (by omega) d_p15m30_208 ?_
                      refine pd_top (v' := .int (pd_b ((R j218).2.1))) (congrArg Value.int (hCc j218 (by omega)).2.2.2.2.2.1) ?_
                      refine pd_bne (tgt := 215) hx hb d_p15m30_209 (by decide) (fun q240 => ?_) (fun q240 => ?_)
                      · -- taken: 215
                        refine pd_iinc (k := 0) (d := 1) (lv' := [(6, .int (nI 5)), (5, .int (nI 1)), (4, .int (nI 4)), (3, .int (nI j211)), (0, .ref y), (1, .int (nI 5)), (2, .int (nI 0))]) hx hb d_p15m30_215 (by decide) hl rfl (by decide) rfl (fun ls hl => ?_)
                        refine lv_goto (tgt := 192) hx hb d_p15m30_218 (by decide) ?_
                        refine lv_iload hx hb d_p15m30_192 (lv_at hl 0 rfl) ?_
                        refine lv_iload_n hx hb d_p15m30_194 rfl (lv_at hl 5 rfl) ?_
                        refine pd_jge (tgt := 221) hx hb d_p15m30_195 (by decide) (by decide) (by decide) (fun _ => ?_) (fun q => absurd q (by decide))
                        refine lv_iload hx hb d_p15m30_221 (lv_at hl 1 rfl) ?_
                        refine lv_iconst (v := nI 2) hx hb d_p15m30_223 (by decide) ?_
                        refine pd_jne (tgt := 247) hx hb d_p15m30_224 (by decide) (by decide) (by decide) (fun _ => ?_) (fun q => absurd q (by decide))
                        have hn4 : ¬ ((R j211).2.1 = true ∨ gr_pc R (some j218) = true ∨ gr_pc R none = true ∨ (¬ some j218 = none ∧ some j218 = none)) := by simp [gr_pc, q234, q240]
                        refine lv_aload_n hx hb d_p15m30_247 rfl (lv_at hl 4 rfl) ?_
                        refine pd_get X w hy0 rfl 12 (by decide) mT_1151 rfl rfl d_p15m30_248 ?_
                        refine pd_top (v' := .int (nI n)) (congrArg Value.int hiv12) ?_
                        refine lv_bipush (v := nI 14) hx hb d_p15m30_251 (by decide) ?_
                        refine pd_jne (tgt := 259) hx hb d_p15m30_253 (by decide) (by omega) (by omega) (fun q243 => ?_) (fun q243 => ?_)
                        · -- taken: 259
                          refine lv_aload_n hx hb d_p15m30_259 rfl (lv_at hl 4 rfl) ?_
                          refine pd_get X w hy0 rfl 12 (by decide) mT_1151 rfl rfl d_p15m30_260 ?_
                          refine pd_top (v' := .int (nI n)) (congrArg Value.int hiv12) ?_
                          refine lv_istore (lv' := [(6, .int (nI n)), (5, .int (nI 1)), (4, .int (nI 4)), (3, .int (nI j211)), (0, .ref y), (1, .int (nI 5)), (2, .int (nI 0))]) hx hb d_p15m30_263 hl (by decide) rfl (fun ls hl => ?_)
                          refine lv_iconst (v := nI 0) hx hb d_p15m30_265 (by decide) ?_
                          refine lv_istore (lv' := [(7, .int (nI 0)), (6, .int (nI n)), (5, .int (nI 1)), (4, .int (nI 4)), (3, .int (nI j211)), (0, .ref y), (1, .int (nI 5)), (2, .int (nI 0))]) hx hb d_p15m30_266 hl (by decide) rfl (fun ls hl => ?_)
                          refine lv_iload hx hb d_p15m30_268 (lv_at hl 0 rfl) ?_
                          refine lv_iload hx hb d_p15m30_270 (lv_at hl 2 rfl) ?_
                          refine pd_jge (tgt := 302) hx hb d_p15m30_272 (by decide) (by decide) (by decide) (fun q => absurd q (by decide)) (fun _ => ?_)
                          refine lv_aload_n hx hb d_p15m30_275 rfl (lv_at hl 5 rfl) ?_
                          refine pd_get X w hy0 rfl 9 (by decide) mT_1148 rfl rfl d_p15m30_276 ?_
                          refine lv_iconst (v := nI 2) hx hb d_p15m30_279 (by decide) ?_
                          refine lv_iload hx hb d_p15m30_280 (lv_at hl 1 rfl) ?_
                          refine pd_imul hx hb d_p15m30_282 ?_
                          refine lv_iload hx hb d_p15m30_283 (lv_at hl 0 rfl) ?_
                          refine pd_iadd hx hb d_p15m30_285 ?_
                          refine lv_aload_n hx hb d_p15m30_286 rfl (lv_at hl 5 rfl) ?_
                          refine lv_iload hx hb d_p15m30_287 (lv_at hl 3 rfl) ?_
                          refine lv_iload hx hb d_p15m30_289 (lv_at hl 0 rfl) ?_
                          refine pd_iadd hx hb d_p15m30_291 ?_
                          refine pd_cV (a := y) (As := [.int (nI 4)]) (rest := [.int (nI ((2 * n) + 0)), .ref (ad 9)]) X w hy0 rfl (c_Mod_classOf l G h (cs := cs) (nw := 5) (sA := sA) (eA := eA) (n := n) (R := R) (ad := ad) (fv := fv) (iv := iv) (tl := tl) hMO hL hW (by omega) hC) ok_Mod_classOf ⟨mT_1322, sT_20⟩ mT_1320 ⟨by decide, by decide⟩ rfl hl.1 rfl (Nat.le_of_ble_eq_true rfl) d_p15m30_292 ⟨by decide, by decide⟩ (fun r245 h246 H locs hp247 w => ?_)
                          refine W.widen (k := 0) (n := 0) (by decide) (by decide) ?_
                          obtain ⟨e248, rfl⟩ := hp247
                          refine pd_top (v' := .int (nI j218)) (congrArg Value.int (by rw [e248, hwk 4 (by omega), hq4]; rfl)) ?_
                          refine pd_iast X w ha9 (hMO.2.2 9 (by decide)).2 (by omega) (by omega) d_p15m30_295 (fun H locs w => ?_)
                          have w : pd_w G s H locs (pd_up h (ad 9) (39, .inl (.int, 28, .inl (upd (fv 9) ((2 * n) + 0) (nI j218))))) := w
                          obtain ⟨h249, u252⟩ : ∃ z, z = pd_up h (ad 9) (39, .inl (.int, 28, .inl (upd (fv 9) ((2 * n) + 0) (nI j218)))) := ⟨_, rfl⟩
                          rw [← u252] at w
                          have k250 : pd_kq (ad 9) h h249 := by rw [u252]; exact pd_up_kq
                          have f251 : h249 (ad 9) = some (39, .inl (.int, 28, .inl (upd (fv 9) ((2 * n) + 0) (nI j218)))) := by rw [u252]; exact pd_up_s _ _ _
                          have f253 := k250 _ _ (pd_ne hy0 ha9 (by simp)) hy0
                          have f254 := k250 _ _ (pd_ne ha0 ha9 (by simp)) ha0
                          have f255 := k250 _ _ (pd_ne ha1 ha9 (by simp)) ha1
                          have f256 := k250 _ _ (pd_ne ha2 ha9 (by simp)) ha2
                          have f257 := k250 _ _ (pd_ne ha6 ha9 (by simp)) ha6
                          have f258 := k250 _ _ (pd_ne ha7 ha9 (by simp)) ha7
                          have f259 := k250 _ _ (pd_ne ha8 ha9 (by simp)) ha8
                          have f260 := k250 _ _ (pd_ne ha10 ha9 (by simp)) ha10
                          have f261 := k250 _ _ (pd_ne ha11 ha9 (by simp)) ha11
                          refine pd_iinc (k := 0) (d := 1) (lv' := [(7, .int (nI 1)), (6, .int (nI n)), (5, .int (nI 1)), (4, .int (nI 4)), (3, .int (nI j211)), (0, .ref y), (1, .int (nI 5)), (2, .int (nI 0))]) hx hb d_p15m30_296 (by decide) hl rfl (by decide) rfl (fun ls hl => ?_)
                          refine lv_goto (tgt := 268) hx hb d_p15m30_299 (by decide) ?_
                          refine lv_iload hx hb d_p15m30_268 (lv_at hl 0 rfl) ?_
                          refine lv_iload hx hb d_p15m30_270 (lv_at hl 2 rfl) ?_
                          refine pd_jge (tgt := 302) hx hb d_p15m30_272 (by decide) (by decide) (by decide) (fun _ => ?_) (fun q => absurd q (by decide))
                          have hwl1 := (hW.2 1 (by omega)).2.2
                          have hdc : gr_dc n R cs false 4 = gr_cadd n R (gr_row R n (gr_w cs 1) false (some j211) (some j218) none) := by have z9 := gr_dc_r (n := n) (R := R) (cs := cs) (bi := false) (ff := 4) (i := j211) (by rw [hup, hfa, hfb, gr_hd_s, if_neg hnl, if_neg (fun y => y hq1), if_neg hn4]); rw [hfa, hfb] at z9; exact z9
                          refine lv_aload_n hx hb d_p15m30_302 rfl (lv_at hl 5 rfl) ?_
                          refine pd_get X w f253 rfl 10 (by decide) mT_1149 rfl rfl d_p15m30_303 ?_
                          refine lv_iload hx hb d_p15m30_306 (lv_at hl 1 rfl) ?_
                          refine lv_iload hx hb d_p15m30_308 (lv_at hl 2 rfl) ?_
                          refine pd_iast X w f260 (hMO.2.2 10 (by decide)).2 (by omega) (by omega) d_p15m30_310 (fun H locs w => ?_)
                          have w : pd_w G s H locs (pd_up h249 (ad 10) (40, .inl (.int, 14, .inl (upd (fv 10) n (nI 1))))) := w
                          obtain ⟨h263, u266⟩ : ∃ z, z = pd_up h249 (ad 10) (40, .inl (.int, 14, .inl (upd (fv 10) n (nI 1)))) := ⟨_, rfl⟩
                          rw [← u266] at w
                          have k264 : pd_kq (ad 10) h249 h263 := by rw [u266]; exact pd_up_kq
                          have f265 : h263 (ad 10) = some (40, .inl (.int, 14, .inl (upd (fv 10) n (nI 1)))) := by rw [u266]; exact pd_up_s _ _ _
                          have f267 := k264 _ _ (pd_ne f253 f260 (by simp)) f253
                          have f268 := k264 _ _ (pd_ne f254 f260 (by simp)) f254
                          have f269 := k264 _ _ (pd_ne f255 f260 (by simp)) f255
                          have f270 := k264 _ _ (pd_ne f256 f260 (by simp)) f256
                          have f271 := k264 _ _ (pd_ne f257 f260 (by simp)) f257
                          have f272 := k264 _ _ (pd_ne f258 f260 (by simp)) f258
                          have f273 := k264 _ _ (pd_ne f259 f260 (by simp)) f259
                          have f274 := k264 _ _ (pd_ne f261 f260 (by simp)) f261
                          have f275 := k264 _ _ (pd_ne f251 f260 (by simp)) f251
                          refine lv_aload_n hx hb d_p15m30_311 rfl (lv_at hl 5 rfl) ?_
                          refine pd_get X w f267 rfl 8 (by decide) mT_1147 rfl rfl d_p15m30_312 ?_
                          refine lv_iload hx hb d_p15m30_315 (lv_at hl 1 rfl) ?_
                          refine lv_iload_n hx hb d_p15m30_317 rfl (lv_at hl 4 rfl) ?_
                          refine pd_iast X w f273 (hMO.2.2 8 (by decide)).2 (by omega) (by omega) d_p15m30_318 (fun H locs w => ?_)
                          have w : pd_w G s H locs (pd_up h263 (ad 8) (38, .inl (.int, 14, .inl (upd (fv 8) n (nI j211))))) := w
                          obtain ⟨h276, u279⟩ : ∃ z, z = pd_up h263 (ad 8) (38, .inl (.int, 14, .inl (upd (fv 8) n (nI j211)))) := ⟨_, rfl⟩
                          rw [← u279] at w
                          have k277 : pd_kq (ad 8) h263 h276 := by rw [u279]; exact pd_up_kq
                          have f278 : h276 (ad 8) = some (38, .inl (.int, 14, .inl (upd (fv 8) n (nI j211)))) := by rw [u279]; exact pd_up_s _ _ _
                          have f280 := k277 _ _ (pd_ne f267 f273 (by simp)) f267
                          have f281 := k277 _ _ (pd_ne f268 f273 (by simp)) f268
                          have f282 := k277 _ _ (pd_ne f269 f273 (by simp)) f269
                          have f283 := k277 _ _ (pd_ne f270 f273 (by simp)) f270
                          have f284 := k277 _ _ (pd_ne f271 f273 (by simp)) f271
                          have f285 := k277 _ _ (pd_ne f272 f273 (by simp)) f272
                          have f286 := k277 _ _ (pd_ne f274 f273 (by simp)) f274
                          have f287 := k277 _ _ (pd_ne f275 f273 (by simp)) f275
                          have f288 := k277 _ _ (pd_ne f265 f273 (by simp)) f265
                          refine lv_aload_n hx hb d_p15m30_319 rfl (lv_at hl 5 rfl) ?_
                          refine pd_get X w f280 rfl 11 (by decide) mT_1150 rfl rfl d_p15m30_320 ?_
                          refine lv_iload hx hb d_p15m30_323 (lv_at hl 1 rfl) ?_
                          refine lv_iload_n hx hb d_p15m30_325 rfl (lv_at hl 7 rfl) ?_
                          refine pd_zast (z := (nI 0)) X w f286 (hMO.2.2 11 (by decide)).2 (by omega) (by omega) (by decide) d_p15m30_326 (fun H locs w => ?_)
                          have w : pd_w G s H locs (pd_up h276 (ad 11) (41, .inl (.boolean, 14, .inl (upd (fv 11) n (nI 0))))) := w
                          obtain ⟨h289, u292⟩ : ∃ z, z = pd_up h276 (ad 11) (41, .inl (.boolean, 14, .inl (upd (fv 11) n (nI 0)))) := ⟨_, rfl⟩
                          rw [← u292] at w
                          have k290 : pd_kq (ad 11) h276 h289 := by rw [u292]; exact pd_up_kq
                          have f291 : h289 (ad 11) = some (41, .inl (.boolean, 14, .inl (upd (fv 11) n (nI 0)))) := by rw [u292]; exact pd_up_s _ _ _
                          have f293 := k290 _ _ (pd_ne f280 f286 (by simp)) f280
                          have f294 := k290 _ _ (pd_ne f281 f286 (by simp)) f281
                          have f295 := k290 _ _ (pd_ne f282 f286 (by simp)) f282
                          have f296 := k290 _ _ (pd_ne f283 f286 (by simp)) f283
                          have f297 := k290 _ _ (pd_ne f284 f286 (by simp)) f284
                          have f298 := k290 _ _ (pd_ne f285 f286 (by simp)) f285
                          have f299 := k290 _ _ (pd_ne f287 f286 (by simp)) f287
                          have f300 := k290 _ _ (pd_ne f288 f286 (by simp)) f288
                          have f301 := k290 _ _ (pd_ne f278 f286 (by simp)) f278
                          refine lv_aload_n hx hb d_p15m30_327 rfl (lv_at hl 5 rfl) ?_
                          refine pd_get X w f293 rfl 7 (by decide) mT_1146 rfl rfl d_p15m30_328 ?_
                          refine lv_iload hx hb d_p15m30_331 (lv_at hl 1 rfl) ?_
                          refine lv_aload_n hx hb d_p15m30_333 rfl (lv_at hl 5 rfl) ?_
                          refine pd_get X w f293 rfl 2 (by decide) mT_1141 rfl rfl d_p15m30_334 ?_
                          refine lv_iconst (v := nI 1) hx hb d_p15m30_337 (by decide) ?_
                          refine pd_iald X w f296 (by omega) (by omega) d_p15m30_338 ?_
                          refine pd_top (v' := .int (nI (eA 1))) (congrArg Value.int (hW.2 1 (by omega)).2.1) ?_
                          refine lv_aload_n hx hb d_p15m30_339 rfl (lv_at hl 5 rfl) ?_
                          refine pd_get X w f293 rfl 1 (by decide) mT_1140 rfl rfl d_p15m30_340 ?_
                          refine lv_iconst (v := nI 1) hx hb d_p15m30_343 (by decide) ?_
                          refine pd_iald X w f295 (by omega) (by omega) d_p15m30_344 ?_
                          refine pd_top (v' := .int (nI (sA 1))) (congrArg Value.int (hW.2 1 (by omega)).1) ?_
                          refine pd_isub hx hb d_p15m30_345 (by omega) ?_
                          refine pd_iast X w f298 (hMO.2.2 7 (by decide)).2 (by omega) (by omega) d_p15m30_346 (fun H locs w => ?_)
                          have w : pd_w G s H locs (pd_up h289 (ad 7) (37, .inl (.int, 14, .inl (upd (fv 7) n (nI ((eA 1) - (sA 1))))))) := w
                          obtain ⟨h302, u305⟩ : ∃ z, z = pd_up h289 (ad 7) (37, .inl (.int, 14, .inl (upd (fv 7) n (nI ((eA 1) - (sA 1)))))) := ⟨_, rfl⟩
                          rw [← u305] at w
                          have k303 : pd_kq (ad 7) h289 h302 := by rw [u305]; exact pd_up_kq
                          have f304 : h302 (ad 7) = some (37, .inl (.int, 14, .inl (upd (fv 7) n (nI ((eA 1) - (sA 1)))))) := by rw [u305]; exact pd_up_s _ _ _
                          have f306 := k303 _ _ (pd_ne f293 f298 (by simp)) f293
                          have f307 := k303 _ _ (pd_ne f294 f298 (by simp)) f294
                          have f308 := k303 _ _ (pd_ne f295 f298 (by simp)) f295
                          have f309 := k303 _ _ (pd_ne f296 f298 (by simp)) f296
                          have f310 := k303 _ _ (pd_ne f297 f298 (by simp)) f297
                          have f311 := k303 _ _ (pd_ne f299 f298 (by simp)) f299
                          have f312 := k303 _ _ (pd_ne f300 f298 (by simp)) f300
                          have f313 := k303 _ _ (pd_ne f301 f298 (by simp)) f301
                          have f314 := k303 _ _ (pd_ne f291 f298 (by simp)) f291
                          refine lv_iconst (v := nI 0) hx hb d_p15m30_347 (by decide) ?_
                          refine lv_istore (lv' := [(7, .int (nI 0)), (6, .int (nI n)), (5, .int (nI 1)), (4, .int (nI 4)), (3, .int (nI j211)), (0, .ref y), (1, .int (nI 5)), (2, .int (nI 0))]) hx hb d_p15m30_348 hl (by decide) rfl (fun ls hl => ?_)
                          have mo315 : pd_MO G h302 y ad (pd_fu (pd_fu (pd_fu (pd_fu (pd_fu fv 7 (upd (fv 7) n (nI ((eA 1) - (sA 1))))) 8 (upd (fv 8) n (nI j211))) 9 (upd (fv 9) ((2 * n) + 0) (nI j218))) 10 (upd (fv 10) n (nI 1))) 11 (upd (fv 11) n (nI 0))) iv tl := pd_MO.of (ts := [39, 40, 38, 41, 37]) hMO (pd_kx.tr (pd_kx.mono (us := [39, 40, 38, 41, 37]) (pd_kx.tr (pd_kx.mono (us := [39, 40, 38, 41]) (pd_kx.tr (pd_kx.mono (us := [39, 40, 38]) (pd_kx.tr (pd_kx.mono (us := [39, 40]) (pd_kq.kx (k250) ha9) (by simp)) (pd_kx.mono (us := [39, 40]) (pd_kq.kx (k264) f260) (by simp))) (by simp)) (pd_kx.mono (us := [39, 40, 38]) (pd_kq.kx (k277) f273) (by simp))) (by simp)) (pd_kx.mono (us := [39, 40, 38, 41]) (pd_kq.kx (k290) f286) (by simp))) (by simp)) (pd_kx.mono (us := [39, 40, 38, 41, 37]) (pd_kq.kx (k303) f298) (by simp))) f306 (fun j hj => if e7 : j = 7 then by subst e7; exact Or.inl f304 else if e8 : j = 8 then by subst e8; exact Or.inl f313 else if e9 : j = 9 then by subst e9; exact Or.inl f311 else if e10 : j = 10 then by subst e10; exact Or.inl f312 else if e11 : j = 11 then by subst e11; exact Or.inl f314 else Or.inr ⟨fun z => by first | (simp at z; done) | (simp at z; omega), by rw [pd_fu_n e11, pd_fu_n e10, pd_fu_n e9, pd_fu_n e8, pd_fu_n e7]⟩)
                          exact lp_Mod_declareC_350 l G h hMO hL hC hW hcut hwd hgn X hmn (100 + 1) 0 j211 1 4 (some j218) none (fv 6) (upd (fv 9) ((2 * n) + 0) (nI j218)) h302 (pd_kx.mono (us := [20, 36, 37, 38, 39, 40, 41]) (pd_kx.tr (pd_kx.mono (us := [39, 40, 38, 41, 37]) (pd_kx.tr (pd_kx.mono (us := [39, 40, 38, 41]) (pd_kx.tr (pd_kx.mono (us := [39, 40, 38]) (pd_kx.tr (pd_kx.mono (us := [39, 40]) (pd_kq.kx (k250) ha9) (by simp)) (pd_kx.mono (us := [39, 40]) (pd_kq.kx (k264) f260) (by simp))) (by simp)) (pd_kx.mono (us := [39, 40, 38]) (pd_kq.kx (k277) f273) (by simp))) (by simp)) (pd_kx.mono (us := [39, 40, 38, 41]) (pd_kq.kx (k290) f286) (by simp))) (by simp)) (pd_kx.mono (us := [39, 40, 38, 41, 37]) (pd_kq.kx (k303) f298) (by simp))) (by simp)) ((pd_MO.ext (fv2 := pd_fu (pd_fu (pd_fu (pd_fu (pd_fu (pd_fu fv 6 (fv 6)) 7 (upd (fv 7) n (nI ((eA 1) - (sA 1))))) 8 (upd (fv 8) n (nI j211))) 9 (upd (fv 9) ((2 * n) + 0) (nI j218))) 10 (upd (fv 10) n (nI 1))) 11 (upd (fv 11) n (nI 0))) (iv2 := iv) mo315 (fun j9 hj9 => by by_cases e906 : j9 = 6; subst e906; rfl; by_cases e907 : j9 = 7; subst e907; rfl; by_cases e908 : j9 = 8; subst e908; rfl; by_cases e909 : j9 = 9; subst e909; rfl; by_cases e910 : j9 = 10; subst e910; rfl; by_cases e911 : j9 = 11; subst e911; rfl; simp only [pd_fu, if_neg e906, if_neg e907, if_neg e908, if_neg e909, if_neg e910, if_neg e911]) rfl)) (hcd) (hdc) (rfl) (fun t ht => by have ht : t < 1 := ht; have e9 : t = 0 := (by omega); subst e9; exact pk_us) (fun x hx => by rw [pk_un (by omega)]) (by simp) (by omega) (by omega) (fun t ht => absurd ht (Nat.not_lt_zero t)) (fun _ _ => rfl) (by omega) _ _ w ls (lv_sub hl [0, 1, 2, 3, 4, 5, 6, 7] rfl)
                        · -- not taken: 256
                          refine lv_bipush (v := -5) hx hb d_p15m30_256 (by decide) ?_
                          have hg : gr_dc n R cs false 4 = (-5, n, R) := by have z9 := gr_dc_r (n := n) (R := R) (cs := cs) (bi := false) (ff := 4) (i := j211) (by rw [hup, hfa, hfb, gr_hd_s, if_neg hnl, if_neg (fun y => y hq1), if_neg hn4]); rw [z9, gr_cadd_n (by omega)]
                          exact pd_iret (v := (-5)) X w (Or.inr ⟨hcd, by rw [hg], pd_kx.rf, fv, iv, hMO, ⟨fun _ _ => rfl, fun _ _ => rfl⟩, (by rw [hg]; exact hC)⟩) (by decide) (by decide) d_p15m30_258
                      · -- not taken: 212
                        refine lv_bipush (v := -4) hx hb d_p15m30_212 (by decide) ?_
                        have hg : gr_dc n R cs false 4 = (-4, n, R) := gr_dc_l (by rw [hup, hfa, hfb, gr_hd_s, if_neg hnl, if_neg (fun y => y hq1), if_pos (by simp [gr_pc, q234, q240])])
                        exact pd_iret (v := (-4)) X w (Or.inr ⟨hcd, by rw [hg], pd_kx.rf, fv, iv, hMO, ⟨fun _ _ => rfl, fun _ _ => rfl⟩, (by rw [hg]; exact hC)⟩) (by decide) (by decide) d_p15m30_214
                    · -- not taken: 185
                      refine lv_bipush (v := -4) hx hb d_p15m30_185 (by decide) ?_
                      have hg : gr_dc n R cs false 4 = (-4, n, R) := gr_dc_l (by rw [hup, hfa, hfb, gr_hd_s, if_neg hnl, if_neg (fun y => y hq1), if_pos (by simp [gr_pc, q234])])
                      exact pd_iret (v := (-4)) X w (Or.inr ⟨hcd, by rw [hg], pd_kx.rf, fv, iv, hMO, ⟨fun _ _ => rfl, fun _ _ => rfl⟩, (by rw [hg]; exact hC)⟩) (by decide) (by decide) d_p15m30_187
                  · -- some: 127
                    rw [q224] at e223
                    have j225lt := gr_fi_lt e223.symm
                    have hq1 : gr_find R n (gr_w cs 1) = some j225 := by rw [← hwk 1 (by omega)]; exact e223.symm
                    refine lv_bipush (v := -3) hx hb d_p15m30_127 (by decide) ?_
                    have hg : gr_dc n R cs false 4 = (-3, n, R) := gr_dc_l (by rw [hup, hfa, hfb, gr_hd_s, if_neg hnl, if_pos (by rw [hq1]; simp)])
                    exact pd_iret (v := (-3)) X w (Or.inr ⟨hcd, by rw [hg], pd_kx.rf, fv, iv, hMO, ⟨fun _ _ => rfl, fun _ _ => rfl⟩, (by rw [hg]; exact hC)⟩) (by decide) (by decide) d_p15m30_129
            · -- not taken: 87
              refine lv_iconst (v := -1) hx hb d_p15m30_87 (by decide) ?_
              exact pd_iret (v := (-1)) X w (Or.inl ⟨(fun z => of_decide_eq_false (e202.symm.trans q203) (z.2.2.2 4 (by omega) (by omega))), rfl, rfl⟩) (by decide) (by decide) d_p15m30_88
          · -- not taken: 87
            refine lv_iconst (v := -1) hx hb d_p15m30_87 (by decide) ?_
            exact pd_iret (v := (-1)) X w (Or.inl ⟨(fun z => of_decide_eq_false (e196.symm.trans q197) (z.2.2.2 3 (by omega) (by omega))), rfl, rfl⟩) (by decide) (by decide) d_p15m30_88
        · -- not taken: 70
          refine lv_iconst (v := -1) hx hb d_p15m30_70 (by decide) ?_
          exact pd_iret (v := (-1)) X w (Or.inl ⟨(fun z => by have z1 := z.2.2.1 (by omega); omega), rfl, rfl⟩) (by decide) (by decide) d_p15m30_71
  · -- nw = 6
    have hl : lv_has ls 8 [(0, .ref y), (1, .int (nI 6)), (2, .int (nI 0))] := hl
    refine lv_iload_n hx hb d_p15m30_0 rfl (lv_at hl 1 rfl) ?_
    refine lv_iconst (v := nI 2) hx hb d_p15m30_1 (by decide) ?_
    refine pd_jlt (tgt := 70) hx hb d_p15m30_2 (by decide) (by decide) (by decide) (fun q => absurd q (by decide)) (fun _ => ?_)
    refine lv_iload_n hx hb d_p15m30_5 rfl (lv_at hl 1 rfl) ?_
    refine lv_iconst (v := nI 3) hx hb d_p15m30_6 (by decide) ?_
    refine pd_jeq (tgt := 70) hx hb d_p15m30_7 (by decide) (by decide) (by decide) (fun q => absurd q (by decide)) (fun _ => ?_)
    refine lv_iload_n hx hb d_p15m30_10 rfl (lv_at hl 1 rfl) ?_
    refine lv_iload_n hx hb d_p15m30_11 rfl (lv_at hl 2 rfl) ?_
    refine pd_zeq (tgt := 19) hx hb d_p15m30_12 (by decide) (by decide) (fun _ => ?_) (fun q => absurd q (by decide))
    refine lv_bipush (v := nI 6) hx hb d_p15m30_19 (by decide) ?_
    refine pd_jgt (tgt := 70) hx hb d_p15m30_21 (by decide) (by decide) (by decide) (fun q => absurd q (by decide)) (fun _ => ?_)
    refine lv_aload_n hx hb d_p15m30_24 rfl (lv_at hl 0 rfl) ?_
    refine lv_iconst (v := nI 1) hx hb d_p15m30_25 (by decide) ?_
    refine pd_cV (a := y) (As := [.int (nI 1)]) (rest := []) X w hy0 rfl (c_Mod_isName l G h (cs := cs) (nw := 6) (sA := sA) (eA := eA) (ad := ad) (fv := fv) (iv := iv) (tl := tl) hMO hL hW (by omega)) ok_Mod_isName ⟨mT_1307, sT_17⟩ mT_1305 ⟨by decide, by decide⟩ rfl hl.1 rfl (Nat.le_of_ble_eq_true rfl) d_p15m30_26 ⟨by decide, by decide⟩ (fun r320 h321 H locs hp322 w => ?_)
    refine W.widen (k := 0) (n := 0) (by decide) (by decide) ?_
    obtain ⟨e323, rfl⟩ := hp322
    refine pd_beq (tgt := 70) hx hb d_p15m30_29 (by decide) (fun q324 => ?_) (fun q324 => ?_)
    · -- taken: 70
      refine lv_iconst (v := -1) hx hb d_p15m30_70 (by decide) ?_
      exact pd_iret (v := (-1)) X w (Or.inl ⟨(fun z => of_decide_eq_false (e323.symm.trans q324) z.2.1), rfl, rfl⟩) (by decide) (by decide) d_p15m30_71
    · -- not taken: 32
      have hnm1 : gm_name cs (sA 1) (eA 1) = eA 1 := of_decide_eq_true (e323.symm.trans q324)
      refine lv_iload_n hx hb d_p15m30_32 rfl (lv_at hl 1 rfl) ?_
      refine lv_iconst (v := nI 3) hx hb d_p15m30_33 (by decide) ?_
      refine pd_jle (tgt := 72) hx hb d_p15m30_34 (by decide) (by decide) (by decide) (fun q => absurd q (by decide)) (fun _ => ?_)
      have hwl2 := (hW.2 2 (by omega)).2.2
      refine lv_aload_n hx hb d_p15m30_37 rfl (lv_at hl 0 rfl) ?_
      refine pd_get X w hy0 rfl 2 (by decide) mT_1141 rfl rfl d_p15m30_38 ?_
      refine lv_iconst (v := nI 2) hx hb d_p15m30_41 (by decide) ?_
      refine pd_iald X w ha2 (by omega) (by omega) d_p15m30_42 ?_
      refine pd_top (v' := .int (nI (eA 2))) (congrArg Value.int (hW.2 2 (by omega)).2.1) ?_
      refine lv_aload_n hx hb d_p15m30_43 rfl (lv_at hl 0 rfl) ?_
      refine pd_get X w hy0 rfl 1 (by decide) mT_1140 rfl rfl d_p15m30_44 ?_
      refine lv_iconst (v := nI 2) hx hb d_p15m30_47 (by decide) ?_
      refine pd_iald X w ha1 (by omega) (by omega) d_p15m30_48 ?_
      refine pd_top (v' := .int (nI (sA 2))) (congrArg Value.int (hW.2 2 (by omega)).1) ?_
      refine pd_isub hx hb d_p15m30_49 (by omega) ?_
      refine lv_iconst (v := nI 1) hx hb d_p15m30_50 (by decide) ?_
      refine pd_jne (tgt := 70) hx hb d_p15m30_51 (by decide) (by omega) (by omega) (fun q326 => ?_) (fun q326 => ?_)
      · -- taken: 70
        refine lv_iconst (v := -1) hx hb d_p15m30_70 (by decide) ?_
        exact pd_iret (v := (-1)) X w (Or.inl ⟨(fun z => by have z1 := z.2.2.1 (by omega); omega), rfl, rfl⟩) (by decide) (by decide) d_p15m30_71
      · -- not taken: 54
        refine lv_aload_n hx hb d_p15m30_54 rfl (lv_at hl 0 rfl) ?_
        refine pd_get X w hy0 rfl 0 (by decide) mT_1139 rfl rfl d_p15m30_55 ?_
        refine lv_aload_n hx hb d_p15m30_58 rfl (lv_at hl 0 rfl) ?_
        refine pd_get X w hy0 rfl 1 (by decide) mT_1140 rfl rfl d_p15m30_59 ?_
        refine lv_iconst (v := nI 2) hx hb d_p15m30_62 (by decide) ?_
        refine pd_iald X w ha1 (by omega) (by omega) d_p15m30_63 ?_
        refine pd_top (v' := .int (nI (sA 2))) (congrArg Value.int (hW.2 2 (by omega)).1) ?_
        refine pd_iald X w ha0 (by omega) (by omega) d_p15m30_64 ?_
        refine pd_top (v' := .int (nI (cs.getD (sA 2) 0))) (congrArg Value.int (hln _ (by omega))) ?_
        have := tx_lt hlc (sA 2)
        refine lv_bipush (v := nI 58) hx hb d_p15m30_65 (by decide) ?_
        refine pd_jeq (tgt := 72) hx hb d_p15m30_67 (by decide) (by omega) (by omega) (fun q327 => ?_) (fun q327 => ?_)
        · -- taken: 72
          refine lv_iconst (v := nI 3) hx hb d_p15m30_72 (by decide) ?_
          refine lv_istore_n (lv' := [(3, .int (nI 3)), (0, .ref y), (1, .int (nI 6)), (2, .int (nI 0))]) hx hb d_p15m30_73 rfl hl (by decide) rfl (fun ls hl => ?_)
          refine lv_iload_n hx hb d_p15m30_74 rfl (lv_at hl 0 rfl) ?_
          refine lv_iload_n hx hb d_p15m30_75 rfl (lv_at hl 2 rfl) ?_
          refine pd_jge (tgt := 95) hx hb d_p15m30_76 (by decide) (by decide) (by decide) (fun q => absurd q (by decide)) (fun _ => ?_)
          refine lv_aload_n hx hb d_p15m30_79 rfl (lv_at hl 1 rfl) ?_
          refine lv_iload_n hx hb d_p15m30_80 rfl (lv_at hl 0 rfl) ?_
          refine pd_cV (a := y) (As := [.int (nI 3)]) (rest := []) X w hy0 rfl (c_Mod_isName l G h (cs := cs) (nw := 6) (sA := sA) (eA := eA) (ad := ad) (fv := fv) (iv := iv) (tl := tl) hMO hL hW (by omega)) ok_Mod_isName ⟨mT_1307, sT_17⟩ mT_1305 ⟨by decide, by decide⟩ rfl hl.1 rfl (Nat.le_of_ble_eq_true rfl) d_p15m30_81 ⟨by decide, by decide⟩ (fun r329 h330 H locs hp331 w => ?_)
          refine W.widen (k := 0) (n := 0) (by decide) (by decide) ?_
          obtain ⟨e332, rfl⟩ := hp331
          refine pd_bne (tgt := 89) hx hb d_p15m30_84 (by decide) (fun q333 => ?_) (fun q333 => ?_)
          · -- taken: 89
            have hnm3 : gm_name cs (sA 3) (eA 3) = eA 3 := of_decide_eq_true (e332.symm.trans q333)
            refine pd_iinc (k := 0) (d := 1) (lv' := [(3, .int (nI 4)), (0, .ref y), (1, .int (nI 6)), (2, .int (nI 0))]) hx hb d_p15m30_89 (by decide) hl rfl (by decide) rfl (fun ls hl => ?_)
            refine lv_goto (tgt := 74) hx hb d_p15m30_92 (by decide) ?_
            refine lv_iload_n hx hb d_p15m30_74 rfl (lv_at hl 0 rfl) ?_
            refine lv_iload_n hx hb d_p15m30_75 rfl (lv_at hl 2 rfl) ?_
            refine pd_jge (tgt := 95) hx hb d_p15m30_76 (by decide) (by decide) (by decide) (fun q => absurd q (by decide)) (fun _ => ?_)
            refine lv_aload_n hx hb d_p15m30_79 rfl (lv_at hl 1 rfl) ?_
            refine lv_iload_n hx hb d_p15m30_80 rfl (lv_at hl 0 rfl) ?_
            refine pd_cV (a := y) (As := [.int (nI 4)]) (rest := []) X w hy0 rfl (c_Mod_isName l G h (cs := cs) (nw := 6) (sA := sA) (eA := eA) (ad := ad) (fv := fv) (iv := iv) (tl := tl) hMO hL hW (by omega)) ok_Mod_isName ⟨mT_1307, sT_17⟩ mT_1305 ⟨by decide, by decide⟩ rfl hl.1 rfl (Nat.le_of_ble_eq_true rfl) d_p15m30_81 ⟨by decide, by decide⟩ (fun r335 h336 H locs hp337 w => ?_)
            refine W.widen (k := 0) (n := 0) (by decide) (by decide) ?_
            obtain ⟨e338, rfl⟩ := hp337
            refine pd_bne (tgt := 89) hx hb d_p15m30_84 (by decide) (fun q339 => ?_) (fun q339 => ?_)
            · -- taken: 89
              have hnm4 : gm_name cs (sA 4) (eA 4) = eA 4 := of_decide_eq_true (e338.symm.trans q339)
              refine pd_iinc (k := 0) (d := 1) (lv' := [(3, .int (nI 5)), (0, .ref y), (1, .int (nI 6)), (2, .int (nI 0))]) hx hb d_p15m30_89 (by decide) hl rfl (by decide) rfl (fun ls hl => ?_)
              refine lv_goto (tgt := 74) hx hb d_p15m30_92 (by decide) ?_
              refine lv_iload_n hx hb d_p15m30_74 rfl (lv_at hl 0 rfl) ?_
              refine lv_iload_n hx hb d_p15m30_75 rfl (lv_at hl 2 rfl) ?_
              refine pd_jge (tgt := 95) hx hb d_p15m30_76 (by decide) (by decide) (by decide) (fun q => absurd q (by decide)) (fun _ => ?_)
              refine lv_aload_n hx hb d_p15m30_79 rfl (lv_at hl 1 rfl) ?_
              refine lv_iload_n hx hb d_p15m30_80 rfl (lv_at hl 0 rfl) ?_
              refine pd_cV (a := y) (As := [.int (nI 5)]) (rest := []) X w hy0 rfl (c_Mod_isName l G h (cs := cs) (nw := 6) (sA := sA) (eA := eA) (ad := ad) (fv := fv) (iv := iv) (tl := tl) hMO hL hW (by omega)) ok_Mod_isName ⟨mT_1307, sT_17⟩ mT_1305 ⟨by decide, by decide⟩ rfl hl.1 rfl (Nat.le_of_ble_eq_true rfl) d_p15m30_81 ⟨by decide, by decide⟩ (fun r341 h342 H locs hp343 w => ?_)
              refine W.widen (k := 0) (n := 0) (by decide) (by decide) ?_
              obtain ⟨e344, rfl⟩ := hp343
              refine pd_bne (tgt := 89) hx hb d_p15m30_84 (by decide) (fun q345 => ?_) (fun q345 => ?_)
              · -- taken: 89
                have hnm5 : gm_name cs (sA 5) (eA 5) = eA 5 := of_decide_eq_true (e344.symm.trans q345)
                refine pd_iinc (k := 0) (d := 1) (lv' := [(3, .int (nI 6)), (0, .ref y), (1, .int (nI 6)), (2, .int (nI 0))]) hx hb d_p15m30_89 (by decide) hl rfl (by decide) rfl (fun ls hl => ?_)
                refine lv_goto (tgt := 74) hx hb d_p15m30_92 (by decide) ?_
                refine lv_iload_n hx hb d_p15m30_74 rfl (lv_at hl 0 rfl) ?_
                refine lv_iload_n hx hb d_p15m30_75 rfl (lv_at hl 2 rfl) ?_
                refine pd_jge (tgt := 95) hx hb d_p15m30_76 (by decide) (by decide) (by decide) (fun _ => ?_) (fun q => absurd q (by decide))
                have hcd : (2 ≤ 6 ∧ ¬ 6 = 3 ∧ 6 ≤ 6) ∧ gm_name cs (sA 1) (eA 1) = eA 1 ∧ (3 < 6 → eA 2 - sA 2 = 1 ∧ cs.getD (sA 2) 0 = 58) ∧ ∀ t, 3 ≤ t → t < 6 → gm_name cs (sA t) (eA t) = eA t := ⟨⟨by omega, by omega, by omega⟩, hnm1, fun _ => ⟨by omega, by omega⟩, fun t h3 h5 => by rcases (show t = 3 ∨ t = 4 ∨ t = 5 by omega) with rfl | rfl | rfl <;> assumption⟩
                have hcu : (gr_cut cs).1 = 6 := hcut (by omega)
                have hwk := hwd (by omega)
                refine lv_iconst (v := nI 3) hx hb d_p15m30_95 (by decide) ?_
                refine lv_istore_n (lv' := [(3, .int (nI 3)), (0, .ref y), (1, .int (nI 6)), (2, .int (nI 0))]) hx hb d_p15m30_96 rfl hl (by decide) rfl (fun ls hl => ?_)
                refine lv_iload_n hx hb d_p15m30_97 rfl (lv_at hl 0 rfl) ?_
                refine lv_iload_n hx hb d_p15m30_98 rfl (lv_at hl 2 rfl) ?_
                refine pd_jge (tgt := 119) hx hb d_p15m30_99 (by decide) (by decide) (by decide) (fun q => absurd q (by decide)) (fun _ => ?_)
                refine lv_aload_n hx hb d_p15m30_102 rfl (lv_at hl 1 rfl) ?_
                refine lv_iload_n hx hb d_p15m30_103 rfl (lv_at hl 0 rfl) ?_
                refine pd_cV (a := y) (As := [.int (nI 3)]) (rest := []) X w hy0 rfl (c_Mod_classOf l G h (cs := cs) (nw := 6) (sA := sA) (eA := eA) (n := n) (R := R) (ad := ad) (fv := fv) (iv := iv) (tl := tl) hMO hL hW (by omega) hC) ok_Mod_classOf ⟨mT_1322, sT_20⟩ mT_1320 ⟨by decide, by decide⟩ rfl hl.1 rfl (Nat.le_of_ble_eq_true rfl) d_p15m30_104 ⟨by decide, by decide⟩ (fun r348 h349 H locs hp350 w => ?_)
                refine W.widen (k := 0) (n := 0) (by decide) (by decide) ?_
                obtain ⟨e351, rfl⟩ := hp350
                refine pd_mge (tgt := 113) hx hb d_p15m30_107 (by decide) (fun x hx => by have z := gr_fi_lt (e351.symm.trans hx); omega) (fun q352 => ?_) (fun j353 q352 => ?_)
                · -- none: 110
                  rw [q352] at e351
                  have hq3 : gr_find R n (gr_w cs 3) = none := by rw [← hwk 3 (by omega)]; exact e351.symm
                  refine lv_bipush (v := -2) hx hb d_p15m30_110 (by decide) ?_
                  have hup : gr_up n R cs false = none := by unfold gr_up; rw [if_pos ⟨rfl, by omega⟩]; exact hq3
                  have hg : gr_dc n R cs false 4 = (-2, n, R) := gr_dc_l (by rw [hup]; rfl)
                  exact pd_iret (v := (-2)) X w (Or.inr ⟨hcd, by rw [hg], pd_kx.rf, fv, iv, hMO, ⟨fun _ _ => rfl, fun _ _ => rfl⟩, (by rw [hg]; exact hC)⟩) (by decide) (by decide) d_p15m30_112
                · -- some: 113
                  rw [q352] at e351
                  have j353lt := gr_fi_lt e351.symm
                  have hq3 : gr_find R n (gr_w cs 3) = some j353 := by rw [← hwk 3 (by omega)]; exact e351.symm
                  refine pd_iinc (k := 0) (d := 1) (lv' := [(3, .int (nI 4)), (0, .ref y), (1, .int (nI 6)), (2, .int (nI 0))]) hx hb d_p15m30_113 (by decide) hl rfl (by decide) rfl (fun ls hl => ?_)
                  refine lv_goto (tgt := 97) hx hb d_p15m30_116 (by decide) ?_
                  refine lv_iload_n hx hb d_p15m30_97 rfl (lv_at hl 0 rfl) ?_
                  refine lv_iload_n hx hb d_p15m30_98 rfl (lv_at hl 2 rfl) ?_
                  refine pd_jge (tgt := 119) hx hb d_p15m30_99 (by decide) (by decide) (by decide) (fun q => absurd q (by decide)) (fun _ => ?_)
                  refine lv_aload_n hx hb d_p15m30_102 rfl (lv_at hl 1 rfl) ?_
                  refine lv_iload_n hx hb d_p15m30_103 rfl (lv_at hl 0 rfl) ?_
                  refine pd_cV (a := y) (As := [.int (nI 4)]) (rest := []) X w hy0 rfl (c_Mod_classOf l G h (cs := cs) (nw := 6) (sA := sA) (eA := eA) (n := n) (R := R) (ad := ad) (fv := fv) (iv := iv) (tl := tl) hMO hL hW (by omega) hC) ok_Mod_classOf ⟨mT_1322, sT_20⟩ mT_1320 ⟨by decide, by decide⟩ rfl hl.1 rfl (Nat.le_of_ble_eq_true rfl) d_p15m30_104 ⟨by decide, by decide⟩ (fun r355 h356 H locs hp357 w => ?_)
                  refine W.widen (k := 0) (n := 0) (by decide) (by decide) ?_
                  obtain ⟨e358, rfl⟩ := hp357
                  refine pd_mge (tgt := 113) hx hb d_p15m30_107 (by decide) (fun x hx => by have z := gr_fi_lt (e358.symm.trans hx); omega) (fun q359 => ?_) (fun j360 q359 => ?_)
                  · -- none: 110
                    rw [q359] at e358
                    have hq4 : gr_find R n (gr_w cs 4) = none := by rw [← hwk 4 (by omega)]; exact e358.symm
                    refine lv_bipush (v := -2) hx hb d_p15m30_110 (by decide) ?_
                    have hup : gr_up n R cs false = some j353 := by unfold gr_up; rw [if_pos ⟨rfl, by omega⟩]; exact hq3
                    have hg : gr_dc n R cs false 4 = (-2, n, R) := gr_dc_l (by rw [hup, gr_hd_s, if_pos (Or.inl ⟨hq4, by omega⟩)])
                    exact pd_iret (v := (-2)) X w (Or.inr ⟨hcd, by rw [hg], pd_kx.rf, fv, iv, hMO, ⟨fun _ _ => rfl, fun _ _ => rfl⟩, (by rw [hg]; exact hC)⟩) (by decide) (by decide) d_p15m30_112
                  · -- some: 113
                    rw [q359] at e358
                    have j360lt := gr_fi_lt e358.symm
                    have hq4 : gr_find R n (gr_w cs 4) = some j360 := by rw [← hwk 4 (by omega)]; exact e358.symm
                    refine pd_iinc (k := 0) (d := 1) (lv' := [(3, .int (nI 5)), (0, .ref y), (1, .int (nI 6)), (2, .int (nI 0))]) hx hb d_p15m30_113 (by decide) hl rfl (by decide) rfl (fun ls hl => ?_)
                    refine lv_goto (tgt := 97) hx hb d_p15m30_116 (by decide) ?_
                    refine lv_iload_n hx hb d_p15m30_97 rfl (lv_at hl 0 rfl) ?_
                    refine lv_iload_n hx hb d_p15m30_98 rfl (lv_at hl 2 rfl) ?_
                    refine pd_jge (tgt := 119) hx hb d_p15m30_99 (by decide) (by decide) (by decide) (fun q => absurd q (by decide)) (fun _ => ?_)
                    refine lv_aload_n hx hb d_p15m30_102 rfl (lv_at hl 1 rfl) ?_
                    refine lv_iload_n hx hb d_p15m30_103 rfl (lv_at hl 0 rfl) ?_
                    refine pd_cV (a := y) (As := [.int (nI 5)]) (rest := []) X w hy0 rfl (c_Mod_classOf l G h (cs := cs) (nw := 6) (sA := sA) (eA := eA) (n := n) (R := R) (ad := ad) (fv := fv) (iv := iv) (tl := tl) hMO hL hW (by omega) hC) ok_Mod_classOf ⟨mT_1322, sT_20⟩ mT_1320 ⟨by decide, by decide⟩ rfl hl.1 rfl (Nat.le_of_ble_eq_true rfl) d_p15m30_104 ⟨by decide, by decide⟩ (fun r362 h363 H locs hp364 w => ?_)
                    refine W.widen (k := 0) (n := 0) (by decide) (by decide) ?_
                    obtain ⟨e365, rfl⟩ := hp364
                    refine pd_mge (tgt := 113) hx hb d_p15m30_107 (by decide) (fun x hx => by have z := gr_fi_lt (e365.symm.trans hx); omega) (fun q366 => ?_) (fun j367 q366 => ?_)
                    · -- none: 110
                      rw [q366] at e365
                      have hq5 : gr_find R n (gr_w cs 5) = none := by rw [← hwk 5 (by omega)]; exact e365.symm
                      refine lv_bipush (v := -2) hx hb d_p15m30_110 (by decide) ?_
                      have hup : gr_up n R cs false = some j353 := by unfold gr_up; rw [if_pos ⟨rfl, by omega⟩]; exact hq3
                      have hg : gr_dc n R cs false 4 = (-2, n, R) := gr_dc_l (by rw [hup, gr_hd_s, if_pos (Or.inr ⟨hq5, by omega⟩)])
                      exact pd_iret (v := (-2)) X w (Or.inr ⟨hcd, by rw [hg], pd_kx.rf, fv, iv, hMO, ⟨fun _ _ => rfl, fun _ _ => rfl⟩, (by rw [hg]; exact hC)⟩) (by decide) (by decide) d_p15m30_112
                    · -- some: 113
                      rw [q366] at e365
                      have j367lt := gr_fi_lt e365.symm
                      have hq5 : gr_find R n (gr_w cs 5) = some j367 := by rw [← hwk 5 (by omega)]; exact e365.symm
                      refine pd_iinc (k := 0) (d := 1) (lv' := [(3, .int (nI 6)), (0, .ref y), (1, .int (nI 6)), (2, .int (nI 0))]) hx hb d_p15m30_113 (by decide) hl rfl (by decide) rfl (fun ls hl => ?_)
                      refine lv_goto (tgt := 97) hx hb d_p15m30_116 (by decide) ?_
                      refine lv_iload_n hx hb d_p15m30_97 rfl (lv_at hl 0 rfl) ?_
                      refine lv_iload_n hx hb d_p15m30_98 rfl (lv_at hl 2 rfl) ?_
                      refine pd_jge (tgt := 119) hx hb d_p15m30_99 (by decide) (by decide) (by decide) (fun _ => ?_) (fun q => absurd q (by decide))
                      have hup : gr_up n R cs false = some j353 := by unfold gr_up; rw [if_pos ⟨rfl, by omega⟩]; exact hq3
                      have hfa : gr_find R n (gr_w cs 4) = some j360 := hq4
                      have hfb : gr_find R n (gr_w cs 5) = some j367 := hq5
                      have hnl : ¬ ((some j360 = none ∧ 4 < (gr_cut cs).1) ∨ (some j367 = none ∧ 5 < (gr_cut cs).1)) := by rw [hcu]; simp
                      refine lv_aload_n hx hb d_p15m30_119 rfl (lv_at hl 1 rfl) ?_
                      refine lv_iconst (v := nI 1) hx hb d_p15m30_120 (by decide) ?_
                      refine pd_cV (a := y) (As := [.int (nI 1)]) (rest := []) X w hy0 rfl (c_Mod_classOf l G h (cs := cs) (nw := 6) (sA := sA) (eA := eA) (n := n) (R := R) (ad := ad) (fv := fv) (iv := iv) (tl := tl) hMO hL hW (by omega) hC) ok_Mod_classOf ⟨mT_1322, sT_20⟩ mT_1320 ⟨by decide, by decide⟩ rfl hl.1 rfl (Nat.le_of_ble_eq_true rfl) d_p15m30_121 ⟨by decide, by decide⟩ (fun r369 h370 H locs hp371 w => ?_)
                      refine W.widen (k := 0) (n := 0) (by decide) (by decide) ?_
                      obtain ⟨e372, rfl⟩ := hp371
                      refine pd_mlt (tgt := 130) hx hb d_p15m30_124 (by decide) (fun x hx => by have z := gr_fi_lt (e372.symm.trans hx); omega) (fun q373 => ?_) (fun j374 q373 => ?_)
                      · -- none: 130
                        rw [q373] at e372
                        have hq1 : gr_find R n (gr_w cs 1) = none := by rw [← hwk 1 (by omega)]; exact e372.symm
                        refine lv_iload_n hx hb d_p15m30_130 rfl (lv_at hl 3 rfl) ?_
                        refine pd_zne (tgt := 147) hx hb d_p15m30_131 (by decide) (by decide) (fun q => absurd q (by decide)) (fun _ => ?_)
                        refine lv_iload_n hx hb d_p15m30_134 rfl (lv_at hl 2 rfl) ?_
                        refine lv_iconst (v := nI 3) hx hb d_p15m30_135 (by decide) ?_
                        refine pd_jle (tgt := 147) hx hb d_p15m30_136 (by decide) (by decide) (by decide) (fun q => absurd q (by decide)) (fun _ => ?_)
                        refine lv_aload_n hx hb d_p15m30_139 rfl (lv_at hl 1 rfl) ?_
                        refine lv_iconst (v := nI 3) hx hb d_p15m30_140 (by decide) ?_
                        refine pd_cV (a := y) (As := [.int (nI 3)]) (rest := []) X w hy0 rfl (c_Mod_classOf l G h (cs := cs) (nw := 6) (sA := sA) (eA := eA) (n := n) (R := R) (ad := ad) (fv := fv) (iv := iv) (tl := tl) hMO hL hW (by omega) hC) ok_Mod_classOf ⟨mT_1322, sT_20⟩ mT_1320 ⟨by decide, by decide⟩ rfl hl.1 rfl (Nat.le_of_ble_eq_true rfl) d_p15m30_141 ⟨by decide, by decide⟩ (fun r377 h378 H locs hp379 w => ?_)
                        refine W.widen (k := 0) (n := 0) (by decide) (by decide) ?_
                        obtain ⟨e380, rfl⟩ := hp379
                        refine pd_top (v' := .int (nI j353)) (congrArg Value.int (by rw [e380, hwk 3 (by omega), hq3]; rfl)) ?_
                        refine lv_goto (tgt := 148) hx hb d_p15m30_144 (by decide) ?_
                        refine lv_istore_n (lv' := [(3, .int (nI j353)), (0, .ref y), (1, .int (nI 6)), (2, .int (nI 0))]) hx hb d_p15m30_148 rfl hl (by decide) rfl (fun ls hl => ?_)
                        refine lv_iload_n hx hb d_p15m30_149 rfl (lv_at hl 3 rfl) ?_
                        refine pd_zeq (tgt := 157) hx hb d_p15m30_150 (by decide) (by decide) (fun _ => ?_) (fun q => absurd q (by decide))
                        refine lv_iconst (v := nI 4) hx hb d_p15m30_157 (by decide) ?_
                        refine lv_istore (lv' := [(4, .int (nI 4)), (3, .int (nI j353)), (0, .ref y), (1, .int (nI 6)), (2, .int (nI 0))]) hx hb d_p15m30_158 hl (by decide) rfl (fun ls hl => ?_)
                        refine lv_iload_n hx hb d_p15m30_160 rfl (lv_at hl 3 rfl) ?_
                        refine lv_iload hx hb d_p15m30_161 (lv_at hl 0 rfl) ?_
                        refine pd_jle (tgt := 173) hx hb d_p15m30_163 (by decide) (by decide) (by decide) (fun q => absurd q (by decide)) (fun _ => ?_)
                        refine lv_iload_n hx hb d_p15m30_166 rfl (lv_at hl 3 rfl) ?_
                        refine lv_iload hx hb d_p15m30_167 (lv_at hl 0 rfl) ?_
                        refine pd_isub hx hb d_p15m30_169 (by omega) ?_
                        refine lv_goto (tgt := 174) hx hb d_p15m30_170 (by decide) ?_
                        refine lv_istore (lv' := [(5, .int (nI 2)), (4, .int (nI 4)), (3, .int (nI j353)), (0, .ref y), (1, .int (nI 6)), (2, .int (nI 0))]) hx hb d_p15m30_174 hl (by decide) rfl (fun ls hl => ?_)
                        refine lv_aload_n hx hb d_p15m30_176 rfl (lv_at hl 3 rfl) ?_
                        refine pd_get X w hy0 rfl 11 (by decide) mT_1150 rfl rfl d_p15m30_177 ?_
                        refine lv_iload_n hx hb d_p15m30_180 rfl (lv_at hl 2 rfl) ?_
                        refine pd_zald X w ha11 (by omega) (by omega) d_p15m30_181 ?_
                        refine pd_top (v' := .int (pd_b ((R j353).2.1))) (congrArg Value.int (hCc j353 (by omega)).2.2.2.2.2.1) ?_
                        refine pd_beq (tgt := 188) hx hb d_p15m30_182 (by decide) (fun q383 => ?_) (fun q383 => ?_)
                        · -- taken: 188
                          refine lv_iload hx hb d_p15m30_188 (lv_at hl 1 rfl) ?_
                          refine lv_istore (lv' := [(6, .int (nI 4)), (5, .int (nI 2)), (4, .int (nI 4)), (3, .int (nI j353)), (0, .ref y), (1, .int (nI 6)), (2, .int (nI 0))]) hx hb d_p15m30_190 hl (by decide) rfl (fun ls hl => ?_)
                          refine lv_iload hx hb d_p15m30_192 (lv_at hl 0 rfl) ?_
                          refine lv_iload_n hx hb d_p15m30_194 rfl (lv_at hl 5 rfl) ?_
                          refine pd_jge (tgt := 221) hx hb d_p15m30_195 (by decide) (by decide) (by decide) (fun q => absurd q (by decide)) (fun _ => ?_)
                          refine lv_aload_n hx hb d_p15m30_198 rfl (lv_at hl 4 rfl) ?_
                          refine pd_get X w hy0 rfl 11 (by decide) mT_1150 rfl rfl d_p15m30_199 ?_
                          refine lv_aload_n hx hb d_p15m30_202 rfl (lv_at hl 4 rfl) ?_
                          refine lv_iload hx hb d_p15m30_203 (lv_at hl 0 rfl) ?_
                          refine pd_cV (a := y) (As := [.int (nI 4)]) (rest := [.ref (ad 11)]) X w hy0 rfl (c_Mod_classOf l G h (cs := cs) (nw := 6) (sA := sA) (eA := eA) (n := n) (R := R) (ad := ad) (fv := fv) (iv := iv) (tl := tl) hMO hL hW (by omega) hC) ok_Mod_classOf ⟨mT_1322, sT_20⟩ mT_1320 ⟨by decide, by decide⟩ rfl hl.1 rfl (Nat.le_of_ble_eq_true rfl) d_p15m30_205 ⟨by decide, by decide⟩ (fun r385 h386 H locs hp387 w => ?_)
                          refine W.widen (k := 0) (n := 0) (by decide) (by decide) ?_
                          obtain ⟨e388, rfl⟩ := hp387
                          refine pd_top (v' := .int (nI j360)) (congrArg Value.int (by rw [e388, hwk 4 (by omega), hq4]; rfl)) ?_
                          refine pd_zald X w ha11 (by omega) (by omega) d_p15m30_208 ?_
                          refine pd_top (v' := .int (pd_b ((R j360).2.1))) (congrArg Value.int (hCc j360 (by omega)).2.2.2.2.2.1) ?_
                          refine pd_bne (tgt := 215) hx hb d_p15m30_209 (by decide) (fun q389 => ?_) (fun q389 => ?_)
                          · -- taken: 215
                            refine pd_iinc (k := 0) (d := 1) (lv' := [(6, .int (nI 5)), (5, .int (nI 2)), (4, .int (nI 4)), (3, .int (nI j353)), (0, .ref y), (1, .int (nI 6)), (2, .int (nI 0))]) hx hb d_p15m30_215 (by decide) hl rfl (by decide) rfl (fun ls hl => ?_)
                            refine lv_goto (tgt := 192) hx hb d_p15m30_218 (by decide) ?_
                            refine lv_iload hx hb d_p15m30_192 (lv_at hl 0 rfl) ?_
                            refine lv_iload_n hx hb d_p15m30_194 rfl (lv_at hl 5 rfl) ?_
                            refine pd_jge (tgt := 221) hx hb d_p15m30_195 (by decide) (by decide) (by decide) (fun q => absurd q (by decide)) (fun _ => ?_)
                            refine lv_aload_n hx hb d_p15m30_198 rfl (lv_at hl 4 rfl) ?_
                            refine pd_get X w hy0 rfl 11 (by decide) mT_1150 rfl rfl d_p15m30_199 ?_
                            refine lv_aload_n hx hb d_p15m30_202 rfl (lv_at hl 4 rfl) ?_
                            refine lv_iload hx hb d_p15m30_203 (lv_at hl 0 rfl) ?_
                            refine pd_cV (a := y) (As := [.int (nI 5)]) (rest := [.ref (ad 11)]) X w hy0 rfl (c_Mod_classOf l G h (cs := cs) (nw := 6) (sA := sA) (eA := eA) (n := n) (R := R) (ad := ad) (fv := fv) (iv := iv) (tl := tl) hMO hL hW (by omega) hC) ok_Mod_classOf ⟨mT_1322, sT_20⟩ mT_1320 ⟨by decide, by decide⟩ rfl hl.1 rfl (Nat.le_of_ble_eq_true rfl) d_p15m30_205 ⟨by decide, by decide⟩ (fun r391 h392 H locs hp393 w => ?_)
                            refine W.widen (k := 0) (n := 0) (by decide) (by decide) ?_
                            obtain ⟨e394, rfl⟩ := hp393
                            refine pd_top (v' := .int (nI j367)) (congrArg Value.int (by rw [e394, hwk 5 (by omega), hq5]; rfl)) ?_
                            refine pd_zald X w ha11 (by omega) (by omega) d_p15m30_208 ?_
                            refine pd_top (v' := .int (pd_b ((R j367).2.1))) (congrArg Value.int (hCc j367 (by omega)).2.2.2.2.2.1) ?_
                            refine pd_bne (tgt := 215) hx hb d_p15m30_209 (by decide) (fun q395 => ?_) (fun q395 => ?_)
                            · -- taken: 215
                              refine pd_iinc (k := 0) (d := 1) (lv' := [(6, .int (nI 6)), (5, .int (nI 2)), (4, .int (nI 4)), (3, .int (nI j353)), (0, .ref y), (1, .int (nI 6)), (2, .int (nI 0))]) hx hb d_p15m30_215 (by decide) hl rfl (by decide) rfl (fun ls hl => ?_)
                              refine lv_goto (tgt := 192) hx hb d_p15m30_218 (by decide) ?_
                              refine lv_iload hx hb d_p15m30_192 (lv_at hl 0 rfl) ?_
                              refine lv_iload_n hx hb d_p15m30_194 rfl (lv_at hl 5 rfl) ?_
                              refine pd_jge (tgt := 221) hx hb d_p15m30_195 (by decide) (by decide) (by decide) (fun _ => ?_) (fun q => absurd q (by decide))
                              refine lv_iload hx hb d_p15m30_221 (lv_at hl 1 rfl) ?_
                              refine lv_iconst (v := nI 2) hx hb d_p15m30_223 (by decide) ?_
                              refine pd_jne (tgt := 247) hx hb d_p15m30_224 (by decide) (by decide) (by decide) (fun q => absurd q (by decide)) (fun _ => ?_)
                              refine lv_aload_n hx hb d_p15m30_227 rfl (lv_at hl 4 rfl) ?_
                              refine lv_iload hx hb d_p15m30_228 (lv_at hl 2 rfl) ?_
                              refine pd_cV (a := y) (As := [.int (nI 4)]) (rest := []) X w hy0 rfl (c_Mod_classOf l G h (cs := cs) (nw := 6) (sA := sA) (eA := eA) (n := n) (R := R) (ad := ad) (fv := fv) (iv := iv) (tl := tl) hMO hL hW (by omega) hC) ok_Mod_classOf ⟨mT_1322, sT_20⟩ mT_1320 ⟨by decide, by decide⟩ rfl hl.1 rfl (Nat.le_of_ble_eq_true rfl) d_p15m30_230 ⟨by decide, by decide⟩ (fun r398 h399 H locs hp400 w => ?_)
                              refine W.widen (k := 0) (n := 0) (by decide) (by decide) ?_
                              obtain ⟨e401, rfl⟩ := hp400
                              refine pd_top (v' := .int (nI j360)) (congrArg Value.int (by rw [e401, hwk 4 (by omega), hq4]; rfl)) ?_
                              refine lv_aload_n hx hb d_p15m30_233 rfl (lv_at hl 4 rfl) ?_
                              refine lv_iload hx hb d_p15m30_234 (lv_at hl 2 rfl) ?_
                              refine lv_iconst (v := nI 1) hx hb d_p15m30_236 (by decide) ?_
                              refine pd_iadd hx hb d_p15m30_237 ?_
                              refine pd_cV (a := y) (As := [.int (nI 5)]) (rest := [.int (nI j360)]) X w hy0 rfl (c_Mod_classOf l G h (cs := cs) (nw := 6) (sA := sA) (eA := eA) (n := n) (R := R) (ad := ad) (fv := fv) (iv := iv) (tl := tl) hMO hL hW (by omega) hC) ok_Mod_classOf ⟨mT_1322, sT_20⟩ mT_1320 ⟨by decide, by decide⟩ rfl hl.1 rfl (Nat.le_of_ble_eq_true rfl) d_p15m30_238 ⟨by decide, by decide⟩ (fun r402 h403 H locs hp404 w => ?_)
                              refine W.widen (k := 0) (n := 0) (by decide) (by decide) ?_
                              obtain ⟨e405, rfl⟩ := hp404
                              refine pd_top (v' := .int (nI j367)) (congrArg Value.int (by rw [e405, hwk 5 (by omega), hq5]; rfl)) ?_
                              refine pd_jne (tgt := 247) hx hb d_p15m30_241 (by decide) (by omega) (by omega) (fun q406 => ?_) (fun q406 => ?_)
                              · -- taken: 247
                                have hn4 : ¬ ((R j353).2.1 = true ∨ gr_pc R (some j360) = true ∨ gr_pc R (some j367) = true ∨ (¬ some j360 = none ∧ some j360 = (some j367))) := by simp [gr_pc, q383, q389, q395, q406]
                                refine lv_aload_n hx hb d_p15m30_247 rfl (lv_at hl 4 rfl) ?_
                                refine pd_get X w hy0 rfl 12 (by decide) mT_1151 rfl rfl d_p15m30_248 ?_
                                refine pd_top (v' := .int (nI n)) (congrArg Value.int hiv12) ?_
                                refine lv_bipush (v := nI 14) hx hb d_p15m30_251 (by decide) ?_
                                refine pd_jne (tgt := 259) hx hb d_p15m30_253 (by decide) (by omega) (by omega) (fun q407 => ?_) (fun q407 => ?_)
                                · -- taken: 259
                                  refine lv_aload_n hx hb d_p15m30_259 rfl (lv_at hl 4 rfl) ?_
                                  refine pd_get X w hy0 rfl 12 (by decide) mT_1151 rfl rfl d_p15m30_260 ?_
                                  refine pd_top (v' := .int (nI n)) (congrArg Value.int hiv12) ?_
                                  refine lv_istore (lv' := [(6, .int (nI n)), (5, .int (nI 2)), (4, .int (nI 4)), (3, .int (nI j353)), (0, .ref y), (1, .int (nI 6)), (2, .int (nI 0))]) hx hb d_p15m30_263 hl (by decide) rfl (fun ls hl => ?_)
                                  refine lv_iconst (v := nI 0) hx hb d_p15m30_265 (by decide) ?_
                                  refine lv_istore (lv' := [(7, .int (nI 0)), (6, .int (nI n)), (5, .int (nI 2)), (4, .int (nI 4)), (3, .int (nI j353)), (0, .ref y), (1, .int (nI 6)), (2, .int (nI 0))]) hx hb d_p15m30_266 hl (by decide) rfl (fun ls hl => ?_)
                                  refine lv_iload hx hb d_p15m30_268 (lv_at hl 0 rfl) ?_
                                  refine lv_iload hx hb d_p15m30_270 (lv_at hl 2 rfl) ?_
                                  refine pd_jge (tgt := 302) hx hb d_p15m30_272 (by decide) (by decide) (by decide) (fun q => absurd q (by decide)) (fun _ => ?_)
                                  refine lv_aload_n hx hb d_p15m30_275 rfl (lv_at hl 5 rfl) ?_
                                  refine pd_get X w hy0 rfl 9 (by decide) mT_1148 rfl rfl d_p15m30_276 ?_
                                  refine lv_iconst (v := nI 2) hx hb d_p15m30_279 (by decide) ?_
                                  refine lv_iload hx hb d_p15m30_280 (lv_at hl 1 rfl) ?_
                                  refine pd_imul hx hb d_p15m30_282 ?_
                                  refine lv_iload hx hb d_p15m30_283 (lv_at hl 0 rfl) ?_
                                  refine pd_iadd hx hb d_p15m30_285 ?_
                                  refine lv_aload_n hx hb d_p15m30_286 rfl (lv_at hl 5 rfl) ?_
                                  refine lv_iload hx hb d_p15m30_287 (lv_at hl 3 rfl) ?_
                                  refine lv_iload hx hb d_p15m30_289 (lv_at hl 0 rfl) ?_
                                  refine pd_iadd hx hb d_p15m30_291 ?_
                                  refine pd_cV (a := y) (As := [.int (nI 4)]) (rest := [.int (nI ((2 * n) + 0)), .ref (ad 9)]) X w hy0 rfl (c_Mod_classOf l G h (cs := cs) (nw := 6) (sA := sA) (eA := eA) (n := n) (R := R) (ad := ad) (fv := fv) (iv := iv) (tl := tl) hMO hL hW (by omega) hC) ok_Mod_classOf ⟨mT_1322, sT_20⟩ mT_1320 ⟨by decide, by decide⟩ rfl hl.1 rfl (Nat.le_of_ble_eq_true rfl) d_p15m30_292 ⟨by decide, by decide⟩ (fun r409 h410 H locs hp411 w => ?_)
                                  refine W.widen (k := 0) (n := 0) (by decide) (by decide) ?_
                                  obtain ⟨e412, rfl⟩ := hp411
                                  refine pd_top (v' := .int (nI j360)) (congrArg Value.int (by rw [e412, hwk 4 (by omega), hq4]; rfl)) ?_
                                  refine pd_iast X w ha9 (hMO.2.2 9 (by decide)).2 (by omega) (by omega) d_p15m30_295 (fun H locs w => ?_)
                                  have w : pd_w G s H locs (pd_up h (ad 9) (39, .inl (.int, 28, .inl (upd (fv 9) ((2 * n) + 0) (nI j360))))) := w
                                  obtain ⟨h413, u416⟩ : ∃ z, z = pd_up h (ad 9) (39, .inl (.int, 28, .inl (upd (fv 9) ((2 * n) + 0) (nI j360)))) := ⟨_, rfl⟩
                                  rw [← u416] at w
                                  have k414 : pd_kq (ad 9) h h413 := by rw [u416]; exact pd_up_kq
                                  have f415 : h413 (ad 9) = some (39, .inl (.int, 28, .inl (upd (fv 9) ((2 * n) + 0) (nI j360)))) := by rw [u416]; exact pd_up_s _ _ _
                                  have f417 := k414 _ _ (pd_ne hy0 ha9 (by simp)) hy0
                                  have f418 := k414 _ _ (pd_ne ha0 ha9 (by simp)) ha0
                                  have f419 := k414 _ _ (pd_ne ha1 ha9 (by simp)) ha1
                                  have f420 := k414 _ _ (pd_ne ha2 ha9 (by simp)) ha2
                                  have f421 := k414 _ _ (pd_ne ha6 ha9 (by simp)) ha6
                                  have f422 := k414 _ _ (pd_ne ha7 ha9 (by simp)) ha7
                                  have f423 := k414 _ _ (pd_ne ha8 ha9 (by simp)) ha8
                                  have f424 := k414 _ _ (pd_ne ha10 ha9 (by simp)) ha10
                                  have f425 := k414 _ _ (pd_ne ha11 ha9 (by simp)) ha11
                                  refine pd_iinc (k := 0) (d := 1) (lv' := [(7, .int (nI 1)), (6, .int (nI n)), (5, .int (nI 2)), (4, .int (nI 4)), (3, .int (nI j353)), (0, .ref y), (1, .int (nI 6)), (2, .int (nI 0))]) hx hb d_p15m30_296 (by decide) hl rfl (by decide) rfl (fun ls hl => ?_)
                                  refine lv_goto (tgt := 268) hx hb d_p15m30_299 (by decide) ?_
                                  refine lv_iload hx hb d_p15m30_268 (lv_at hl 0 rfl) ?_
                                  refine lv_iload hx hb d_p15m30_270 (lv_at hl 2 rfl) ?_
                                  refine pd_jge (tgt := 302) hx hb d_p15m30_272 (by decide) (by decide) (by decide) (fun q => absurd q (by decide)) (fun _ => ?_)
                                  refine lv_aload_n hx hb d_p15m30_275 rfl (lv_at hl 5 rfl) ?_
                                  refine pd_get X w f417 rfl 9 (by decide) mT_1148 rfl rfl d_p15m30_276 ?_
                                  refine lv_iconst (v := nI 2) hx hb d_p15m30_279 (by decide) ?_
                                  refine lv_iload hx hb d_p15m30_280 (lv_at hl 1 rfl) ?_
                                  refine pd_imul hx hb d_p15m30_282 ?_
                                  refine lv_iload hx hb d_p15m30_283 (lv_at hl 0 rfl) ?_
                                  refine pd_iadd hx hb d_p15m30_285 ?_
                                  refine lv_aload_n hx hb d_p15m30_286 rfl (lv_at hl 5 rfl) ?_
                                  refine lv_iload hx hb d_p15m30_287 (lv_at hl 3 rfl) ?_
                                  refine lv_iload hx hb d_p15m30_289 (lv_at hl 0 rfl) ?_
                                  refine pd_iadd hx hb d_p15m30_291 ?_
                                  have mo427 : pd_MO G h413 y ad (pd_fu fv 9 (upd (fv 9) ((2 * n) + 0) (nI j360))) iv tl := pd_MO.of (ts := [39]) hMO (pd_kq.kx (k414) ha9) f417 (fun j hj => if e9 : j = 9 then by subst e9; exact Or.inl f415 else Or.inr ⟨fun z => by first | (simp at z; done) | (simp at z; omega), by rw [pd_fu_n e9]⟩)
                                  refine pd_cV (a := y) (As := [.int (nI 5)]) (rest := [.int (nI ((2 * n) + 1)), .ref (ad 9)]) X w f417 rfl (c_Mod_classOf l G h413 (cs := cs) (nw := 6) (sA := sA) (eA := eA) (n := n) (R := R) (ad := ad) (fv := pd_fu fv 9 (upd (fv 9) ((2 * n) + 0) (nI j360))) (iv := iv) (tl := tl) mo427 hL hW (by omega) (gm_C_9 hC (fun x hx => by rw [pk_un (by omega)]))) ok_Mod_classOf ⟨mT_1322, sT_20⟩ mT_1320 ⟨by decide, by decide⟩ rfl hl.1 rfl (Nat.le_of_ble_eq_true rfl) d_p15m30_292 ⟨by decide, by decide⟩ (fun r428 h429 H locs hp430 w => ?_)
                                  refine W.widen (k := 0) (n := 0) (by decide) (by decide) ?_
                                  obtain ⟨e431, rfl⟩ := hp430
                                  refine pd_top (v' := .int (nI j367)) (congrArg Value.int (by rw [e431, hwk 5 (by omega), hq5]; rfl)) ?_
                                  refine pd_iast X w f415 (hMO.2.2 9 (by decide)).2 (by omega) (by omega) d_p15m30_295 (fun H locs w => ?_)
                                  have w : pd_w G s H locs (pd_up h413 (ad 9) (39, .inl (.int, 28, .inl (upd (upd (fv 9) ((2 * n) + 0) (nI j360)) ((2 * n) + 1) (nI j367))))) := w
                                  obtain ⟨h432, u435⟩ : ∃ z, z = pd_up h413 (ad 9) (39, .inl (.int, 28, .inl (upd (upd (fv 9) ((2 * n) + 0) (nI j360)) ((2 * n) + 1) (nI j367)))) := ⟨_, rfl⟩
                                  rw [← u435] at w
                                  have k433 : pd_kq (ad 9) h413 h432 := by rw [u435]; exact pd_up_kq
                                  have f434 : h432 (ad 9) = some (39, .inl (.int, 28, .inl (upd (upd (fv 9) ((2 * n) + 0) (nI j360)) ((2 * n) + 1) (nI j367)))) := by rw [u435]; exact pd_up_s _ _ _
                                  have f436 := k433 _ _ (pd_ne f417 f415 (by simp)) f417
                                  have f437 := k433 _ _ (pd_ne f418 f415 (by simp)) f418
                                  have f438 := k433 _ _ (pd_ne f419 f415 (by simp)) f419
                                  have f439 := k433 _ _ (pd_ne f420 f415 (by simp)) f420
                                  have f440 := k433 _ _ (pd_ne f421 f415 (by simp)) f421
                                  have f441 := k433 _ _ (pd_ne f422 f415 (by simp)) f422
                                  have f442 := k433 _ _ (pd_ne f423 f415 (by simp)) f423
                                  have f443 := k433 _ _ (pd_ne f424 f415 (by simp)) f424
                                  have f444 := k433 _ _ (pd_ne f425 f415 (by simp)) f425
                                  refine pd_iinc (k := 0) (d := 1) (lv' := [(7, .int (nI 2)), (6, .int (nI n)), (5, .int (nI 2)), (4, .int (nI 4)), (3, .int (nI j353)), (0, .ref y), (1, .int (nI 6)), (2, .int (nI 0))]) hx hb d_p15m30_296 (by decide) hl rfl (by decide) rfl (fun ls hl => ?_)
                                  refine lv_goto (tgt := 268) hx hb d_p15m30_299 (by decide) ?_
                                  refine lv_iload hx hb d_p15m30_268 (lv_at hl 0 rfl) ?_
                                  refine lv_iload hx hb d_p15m30_270 (lv_at hl 2 rfl) ?_
                                  refine pd_jge (tgt := 302) hx hb d_p15m30_272 (by decide) (by decide) (by decide) (fun _ => ?_) (fun q => absurd q (by decide))
                                  have hwl1 := (hW.2 1 (by omega)).2.2
                                  have hdc : gr_dc n R cs false 4 = gr_cadd n R (gr_row R n (gr_w cs 1) false (some j353) (some j360) (some j367)) := by have z9 := gr_dc_r (n := n) (R := R) (cs := cs) (bi := false) (ff := 4) (i := j353) (by rw [hup, hfa, hfb, gr_hd_s, if_neg hnl, if_neg (fun y => y hq1), if_neg hn4]); rw [hfa, hfb] at z9; exact z9
                                  refine lv_aload_n hx hb d_p15m30_302 rfl (lv_at hl 5 rfl) ?_
                                  refine pd_get X w f436 rfl 10 (by decide) mT_1149 rfl rfl d_p15m30_303 ?_
                                  refine lv_iload hx hb d_p15m30_306 (lv_at hl 1 rfl) ?_
                                  refine lv_iload hx hb d_p15m30_308 (lv_at hl 2 rfl) ?_
                                  refine pd_iast X w f443 (hMO.2.2 10 (by decide)).2 (by omega) (by omega) d_p15m30_310 (fun H locs w => ?_)
                                  have w : pd_w G s H locs (pd_up h432 (ad 10) (40, .inl (.int, 14, .inl (upd (fv 10) n (nI 2))))) := w
                                  obtain ⟨h446, u449⟩ : ∃ z, z = pd_up h432 (ad 10) (40, .inl (.int, 14, .inl (upd (fv 10) n (nI 2)))) := ⟨_, rfl⟩
                                  rw [← u449] at w
                                  have k447 : pd_kq (ad 10) h432 h446 := by rw [u449]; exact pd_up_kq
                                  have f448 : h446 (ad 10) = some (40, .inl (.int, 14, .inl (upd (fv 10) n (nI 2)))) := by rw [u449]; exact pd_up_s _ _ _
                                  have f450 := k447 _ _ (pd_ne f436 f443 (by simp)) f436
                                  have f451 := k447 _ _ (pd_ne f437 f443 (by simp)) f437
                                  have f452 := k447 _ _ (pd_ne f438 f443 (by simp)) f438
                                  have f453 := k447 _ _ (pd_ne f439 f443 (by simp)) f439
                                  have f454 := k447 _ _ (pd_ne f440 f443 (by simp)) f440
                                  have f455 := k447 _ _ (pd_ne f441 f443 (by simp)) f441
                                  have f456 := k447 _ _ (pd_ne f442 f443 (by simp)) f442
                                  have f457 := k447 _ _ (pd_ne f444 f443 (by simp)) f444
                                  have f458 := k447 _ _ (pd_ne f434 f443 (by simp)) f434
                                  refine lv_aload_n hx hb d_p15m30_311 rfl (lv_at hl 5 rfl) ?_
                                  refine pd_get X w f450 rfl 8 (by decide) mT_1147 rfl rfl d_p15m30_312 ?_
                                  refine lv_iload hx hb d_p15m30_315 (lv_at hl 1 rfl) ?_
                                  refine lv_iload_n hx hb d_p15m30_317 rfl (lv_at hl 4 rfl) ?_
                                  refine pd_iast X w f456 (hMO.2.2 8 (by decide)).2 (by omega) (by omega) d_p15m30_318 (fun H locs w => ?_)
                                  have w : pd_w G s H locs (pd_up h446 (ad 8) (38, .inl (.int, 14, .inl (upd (fv 8) n (nI j353))))) := w
                                  obtain ⟨h459, u462⟩ : ∃ z, z = pd_up h446 (ad 8) (38, .inl (.int, 14, .inl (upd (fv 8) n (nI j353)))) := ⟨_, rfl⟩
                                  rw [← u462] at w
                                  have k460 : pd_kq (ad 8) h446 h459 := by rw [u462]; exact pd_up_kq
                                  have f461 : h459 (ad 8) = some (38, .inl (.int, 14, .inl (upd (fv 8) n (nI j353)))) := by rw [u462]; exact pd_up_s _ _ _
                                  have f463 := k460 _ _ (pd_ne f450 f456 (by simp)) f450
                                  have f464 := k460 _ _ (pd_ne f451 f456 (by simp)) f451
                                  have f465 := k460 _ _ (pd_ne f452 f456 (by simp)) f452
                                  have f466 := k460 _ _ (pd_ne f453 f456 (by simp)) f453
                                  have f467 := k460 _ _ (pd_ne f454 f456 (by simp)) f454
                                  have f468 := k460 _ _ (pd_ne f455 f456 (by simp)) f455
                                  have f469 := k460 _ _ (pd_ne f457 f456 (by simp)) f457
                                  have f470 := k460 _ _ (pd_ne f458 f456 (by simp)) f458
                                  have f471 := k460 _ _ (pd_ne f448 f456 (by simp)) f448
                                  refine lv_aload_n hx hb d_p15m30_319 rfl (lv_at hl 5 rfl) ?_
                                  refine pd_get X w f463 rfl 11 (by decide) mT_1150 rfl rfl d_p15m30_320 ?_
                                  refine lv_iload hx hb d_p15m30_323 (lv_at hl 1 rfl) ?_
                                  refine lv_iload_n hx hb d_p15m30_325 rfl (lv_at hl 7 rfl) ?_
                                  refine pd_zast (z := (nI 0)) X w f469 (hMO.2.2 11 (by decide)).2 (by omega) (by omega) (by decide) d_p15m30_326 (fun H locs w => ?_)
                                  have w : pd_w G s H locs (pd_up h459 (ad 11) (41, .inl (.boolean, 14, .inl (upd (fv 11) n (nI 0))))) := w
                                  obtain ⟨h472, u475⟩ : ∃ z, z = pd_up h459 (ad 11) (41, .inl (.boolean, 14, .inl (upd (fv 11) n (nI 0)))) := ⟨_, rfl⟩
                                  rw [← u475] at w
                                  have k473 : pd_kq (ad 11) h459 h472 := by rw [u475]; exact pd_up_kq
                                  have f474 : h472 (ad 11) = some (41, .inl (.boolean, 14, .inl (upd (fv 11) n (nI 0)))) := by rw [u475]; exact pd_up_s _ _ _
                                  have f476 := k473 _ _ (pd_ne f463 f469 (by simp)) f463
                                  have f477 := k473 _ _ (pd_ne f464 f469 (by simp)) f464
                                  have f478 := k473 _ _ (pd_ne f465 f469 (by simp)) f465
                                  have f479 := k473 _ _ (pd_ne f466 f469 (by simp)) f466
                                  have f480 := k473 _ _ (pd_ne f467 f469 (by simp)) f467
                                  have f481 := k473 _ _ (pd_ne f468 f469 (by simp)) f468
                                  have f482 := k473 _ _ (pd_ne f470 f469 (by simp)) f470
                                  have f483 := k473 _ _ (pd_ne f471 f469 (by simp)) f471
                                  have f484 := k473 _ _ (pd_ne f461 f469 (by simp)) f461
                                  refine lv_aload_n hx hb d_p15m30_327 rfl (lv_at hl 5 rfl) ?_
                                  refine pd_get X w f476 rfl 7 (by decide) mT_1146 rfl rfl d_p15m30_328 ?_
                                  refine lv_iload hx hb d_p15m30_331 (lv_at hl 1 rfl) ?_
                                  refine lv_aload_n hx hb d_p15m30_333 rfl (lv_at hl 5 rfl) ?_
                                  refine pd_get X w f476 rfl 2 (by decide) mT_1141 rfl rfl d_p15m30_334 ?_
                                  refine lv_iconst (v := nI 1) hx hb d_p15m30_337 (by decide) ?_
                                  refine pd_iald X w f479 (by omega) (by omega) d_p15m30_338 ?_
                                  refine pd_top (v' := .int (nI (eA 1))) (congrArg Value.int (hW.2 1 (by omega)).2.1) ?_
                                  refine lv_aload_n hx hb d_p15m30_339 rfl (lv_at hl 5 rfl) ?_
                                  refine pd_get X w f476 rfl 1 (by decide) mT_1140 rfl rfl d_p15m30_340 ?_
                                  refine lv_iconst (v := nI 1) hx hb d_p15m30_343 (by decide) ?_
                                  refine pd_iald X w f478 (by omega) (by omega) d_p15m30_344 ?_
                                  refine pd_top (v' := .int (nI (sA 1))) (congrArg Value.int (hW.2 1 (by omega)).1) ?_
                                  refine pd_isub hx hb d_p15m30_345 (by omega) ?_
                                  refine pd_iast X w f481 (hMO.2.2 7 (by decide)).2 (by omega) (by omega) d_p15m30_346 (fun H locs w => ?_)
                                  have w : pd_w G s H locs (pd_up h472 (ad 7) (37, .inl (.int, 14, .inl (upd (fv 7) n (nI ((eA 1) - (sA 1))))))) := w
                                  obtain ⟨h485, u488⟩ : ∃ z, z = pd_up h472 (ad 7) (37, .inl (.int, 14, .inl (upd (fv 7) n (nI ((eA 1) - (sA 1)))))) := ⟨_, rfl⟩
                                  rw [← u488] at w
                                  have k486 : pd_kq (ad 7) h472 h485 := by rw [u488]; exact pd_up_kq
                                  have f487 : h485 (ad 7) = some (37, .inl (.int, 14, .inl (upd (fv 7) n (nI ((eA 1) - (sA 1)))))) := by rw [u488]; exact pd_up_s _ _ _
                                  have f489 := k486 _ _ (pd_ne f476 f481 (by simp)) f476
                                  have f490 := k486 _ _ (pd_ne f477 f481 (by simp)) f477
                                  have f491 := k486 _ _ (pd_ne f478 f481 (by simp)) f478
                                  have f492 := k486 _ _ (pd_ne f479 f481 (by simp)) f479
                                  have f493 := k486 _ _ (pd_ne f480 f481 (by simp)) f480
                                  have f494 := k486 _ _ (pd_ne f482 f481 (by simp)) f482
                                  have f495 := k486 _ _ (pd_ne f483 f481 (by simp)) f483
                                  have f496 := k486 _ _ (pd_ne f484 f481 (by simp)) f484
                                  have f497 := k486 _ _ (pd_ne f474 f481 (by simp)) f474
                                  refine lv_iconst (v := nI 0) hx hb d_p15m30_347 (by decide) ?_
                                  refine lv_istore (lv' := [(7, .int (nI 0)), (6, .int (nI n)), (5, .int (nI 2)), (4, .int (nI 4)), (3, .int (nI j353)), (0, .ref y), (1, .int (nI 6)), (2, .int (nI 0))]) hx hb d_p15m30_348 hl (by decide) rfl (fun ls hl => ?_)
                                  have mo498 : pd_MO G h485 y ad (pd_fu (pd_fu (pd_fu (pd_fu (pd_fu fv 7 (upd (fv 7) n (nI ((eA 1) - (sA 1))))) 8 (upd (fv 8) n (nI j353))) 9 (upd (upd (fv 9) ((2 * n) + 0) (nI j360)) ((2 * n) + 1) (nI j367))) 10 (upd (fv 10) n (nI 2))) 11 (upd (fv 11) n (nI 0))) iv tl := pd_MO.of (ts := [39, 40, 38, 41, 37]) hMO (pd_kx.tr (pd_kx.mono (us := [39, 40, 38, 41, 37]) (pd_kx.tr (pd_kx.mono (us := [39, 40, 38, 41]) (pd_kx.tr (pd_kx.mono (us := [39, 40, 38]) (pd_kx.tr (pd_kx.mono (us := [39, 40]) (pd_kx.tr (pd_kq.kx (k414) ha9) (pd_kq.kx (k433) f415)) (by simp)) (pd_kx.mono (us := [39, 40]) (pd_kq.kx (k447) f443) (by simp))) (by simp)) (pd_kx.mono (us := [39, 40, 38]) (pd_kq.kx (k460) f456) (by simp))) (by simp)) (pd_kx.mono (us := [39, 40, 38, 41]) (pd_kq.kx (k473) f469) (by simp))) (by simp)) (pd_kx.mono (us := [39, 40, 38, 41, 37]) (pd_kq.kx (k486) f481) (by simp))) f489 (fun j hj => if e7 : j = 7 then by subst e7; exact Or.inl f487 else if e8 : j = 8 then by subst e8; exact Or.inl f496 else if e9 : j = 9 then by subst e9; exact Or.inl f494 else if e10 : j = 10 then by subst e10; exact Or.inl f495 else if e11 : j = 11 then by subst e11; exact Or.inl f497 else Or.inr ⟨fun z => by first | (simp at z; done) | (simp at z; omega), by rw [pd_fu_n e11, pd_fu_n e10, pd_fu_n e9, pd_fu_n e8, pd_fu_n e7]⟩)
                                  exact lp_Mod_declareC_350 l G h hMO hL hC hW hcut hwd hgn X hmn (100 + 1) 0 j353 2 4 (some j360) (some j367) (fv 6) (upd (upd (fv 9) ((2 * n) + 0) (nI j360)) ((2 * n) + 1) (nI j367)) h485 (pd_kx.mono (us := [20, 36, 37, 38, 39, 40, 41]) (pd_kx.tr (pd_kx.mono (us := [39, 40, 38, 41, 37]) (pd_kx.tr (pd_kx.mono (us := [39, 40, 38, 41]) (pd_kx.tr (pd_kx.mono (us := [39, 40, 38]) (pd_kx.tr (pd_kx.mono (us := [39, 40]) (pd_kx.tr (pd_kq.kx (k414) ha9) (pd_kq.kx (k433) f415)) (by simp)) (pd_kx.mono (us := [39, 40]) (pd_kq.kx (k447) f443) (by simp))) (by simp)) (pd_kx.mono (us := [39, 40, 38]) (pd_kq.kx (k460) f456) (by simp))) (by simp)) (pd_kx.mono (us := [39, 40, 38, 41]) (pd_kq.kx (k473) f469) (by simp))) (by simp)) (pd_kx.mono (us := [39, 40, 38, 41, 37]) (pd_kq.kx (k486) f481) (by simp))) (by simp)) ((pd_MO.ext (fv2 := pd_fu (pd_fu (pd_fu (pd_fu (pd_fu (pd_fu fv 6 (fv 6)) 7 (upd (fv 7) n (nI ((eA 1) - (sA 1))))) 8 (upd (fv 8) n (nI j353))) 9 (upd (upd (fv 9) ((2 * n) + 0) (nI j360)) ((2 * n) + 1) (nI j367))) 10 (upd (fv 10) n (nI 2))) 11 (upd (fv 11) n (nI 0))) (iv2 := iv) mo498 (fun j9 hj9 => by by_cases e906 : j9 = 6; subst e906; rfl; by_cases e907 : j9 = 7; subst e907; rfl; by_cases e908 : j9 = 8; subst e908; rfl; by_cases e909 : j9 = 9; subst e909; rfl; by_cases e910 : j9 = 10; subst e910; rfl; by_cases e911 : j9 = 11; subst e911; rfl; simp only [pd_fu, if_neg e906, if_neg e907, if_neg e908, if_neg e909, if_neg e910, if_neg e911]) rfl)) (hcd) (hdc) (rfl) (fun t ht => by have ht : t < 2 := ht; rcases (show t = 0 ∨ t = 1 by omega) with e9 | e9; subst e9; rw [pk_un (by omega)]; exact pk_us; subst e9; exact pk_us) (fun x hx => by rw [pk_un (by omega), pk_un (by omega)]) (by simp) (by omega) (by omega) (fun t ht => absurd ht (Nat.not_lt_zero t)) (fun _ _ => rfl) (by omega) _ _ w ls (lv_sub hl [0, 1, 2, 3, 4, 5, 6, 7] rfl)
                                · -- not taken: 256
                                  refine lv_bipush (v := -5) hx hb d_p15m30_256 (by decide) ?_
                                  have hg : gr_dc n R cs false 4 = (-5, n, R) := by have z9 := gr_dc_r (n := n) (R := R) (cs := cs) (bi := false) (ff := 4) (i := j353) (by rw [hup, hfa, hfb, gr_hd_s, if_neg hnl, if_neg (fun y => y hq1), if_neg hn4]); rw [z9, gr_cadd_n (by omega)]
                                  exact pd_iret (v := (-5)) X w (Or.inr ⟨hcd, by rw [hg], pd_kx.rf, fv, iv, hMO, ⟨fun _ _ => rfl, fun _ _ => rfl⟩, (by rw [hg]; exact hC)⟩) (by decide) (by decide) d_p15m30_258
                              · -- not taken: 244
                                refine lv_bipush (v := -4) hx hb d_p15m30_244 (by decide) ?_
                                have hg : gr_dc n R cs false 4 = (-4, n, R) := gr_dc_l (by rw [hup, hfa, hfb, gr_hd_s, if_neg hnl, if_neg (fun y => y hq1), if_pos (by simp [gr_pc, q383, q389, q395, q406])])
                                exact pd_iret (v := (-4)) X w (Or.inr ⟨hcd, by rw [hg], pd_kx.rf, fv, iv, hMO, ⟨fun _ _ => rfl, fun _ _ => rfl⟩, (by rw [hg]; exact hC)⟩) (by decide) (by decide) d_p15m30_246
                            · -- not taken: 212
                              refine lv_bipush (v := -4) hx hb d_p15m30_212 (by decide) ?_
                              have hg : gr_dc n R cs false 4 = (-4, n, R) := gr_dc_l (by rw [hup, hfa, hfb, gr_hd_s, if_neg hnl, if_neg (fun y => y hq1), if_pos (by simp [gr_pc, q383, q389, q395])])
                              exact pd_iret (v := (-4)) X w (Or.inr ⟨hcd, by rw [hg], pd_kx.rf, fv, iv, hMO, ⟨fun _ _ => rfl, fun _ _ => rfl⟩, (by rw [hg]; exact hC)⟩) (by decide) (by decide) d_p15m30_214
                          · -- not taken: 212
                            refine lv_bipush (v := -4) hx hb d_p15m30_212 (by decide) ?_
                            have hg : gr_dc n R cs false 4 = (-4, n, R) := gr_dc_l (by rw [hup, hfa, hfb, gr_hd_s, if_neg hnl, if_neg (fun y => y hq1), if_pos (by simp [gr_pc, q383, q389])])
                            exact pd_iret (v := (-4)) X w (Or.inr ⟨hcd, by rw [hg], pd_kx.rf, fv, iv, hMO, ⟨fun _ _ => rfl, fun _ _ => rfl⟩, (by rw [hg]; exact hC)⟩) (by decide) (by decide) d_p15m30_214
                        · -- not taken: 185
                          refine lv_bipush (v := -4) hx hb d_p15m30_185 (by decide) ?_
                          have hg : gr_dc n R cs false 4 = (-4, n, R) := gr_dc_l (by rw [hup, hfa, hfb, gr_hd_s, if_neg hnl, if_neg (fun y => y hq1), if_pos (by simp [gr_pc, q383])])
                          exact pd_iret (v := (-4)) X w (Or.inr ⟨hcd, by rw [hg], pd_kx.rf, fv, iv, hMO, ⟨fun _ _ => rfl, fun _ _ => rfl⟩, (by rw [hg]; exact hC)⟩) (by decide) (by decide) d_p15m30_187
                      · -- some: 127
                        rw [q373] at e372
                        have j374lt := gr_fi_lt e372.symm
                        have hq1 : gr_find R n (gr_w cs 1) = some j374 := by rw [← hwk 1 (by omega)]; exact e372.symm
                        refine lv_bipush (v := -3) hx hb d_p15m30_127 (by decide) ?_
                        have hg : gr_dc n R cs false 4 = (-3, n, R) := gr_dc_l (by rw [hup, hfa, hfb, gr_hd_s, if_neg hnl, if_pos (by rw [hq1]; simp)])
                        exact pd_iret (v := (-3)) X w (Or.inr ⟨hcd, by rw [hg], pd_kx.rf, fv, iv, hMO, ⟨fun _ _ => rfl, fun _ _ => rfl⟩, (by rw [hg]; exact hC)⟩) (by decide) (by decide) d_p15m30_129
              · -- not taken: 87
                refine lv_iconst (v := -1) hx hb d_p15m30_87 (by decide) ?_
                exact pd_iret (v := (-1)) X w (Or.inl ⟨(fun z => of_decide_eq_false (e344.symm.trans q345) (z.2.2.2 5 (by omega) (by omega))), rfl, rfl⟩) (by decide) (by decide) d_p15m30_88
            · -- not taken: 87
              refine lv_iconst (v := -1) hx hb d_p15m30_87 (by decide) ?_
              exact pd_iret (v := (-1)) X w (Or.inl ⟨(fun z => of_decide_eq_false (e338.symm.trans q339) (z.2.2.2 4 (by omega) (by omega))), rfl, rfl⟩) (by decide) (by decide) d_p15m30_88
          · -- not taken: 87
            refine lv_iconst (v := -1) hx hb d_p15m30_87 (by decide) ?_
            exact pd_iret (v := (-1)) X w (Or.inl ⟨(fun z => of_decide_eq_false (e332.symm.trans q333) (z.2.2.2 3 (by omega) (by omega))), rfl, rfl⟩) (by decide) (by decide) d_p15m30_88
        · -- not taken: 70
          refine lv_iconst (v := -1) hx hb d_p15m30_70 (by decide) ?_
          exact pd_iret (v := (-1)) X w (Or.inl ⟨(fun z => by have z1 := z.2.2.1 (by omega); omega), rfl, rfl⟩) (by decide) (by decide) d_p15m30_71
  · -- nw = nw
    have hl : lv_has ls 8 [(0, .ref y), (1, .int (nI nw)), (2, .int (nI 0))] := hl
    refine lv_iload_n hx hb d_p15m30_0 rfl (lv_at hl 1 rfl) ?_
    refine lv_iconst (v := nI 2) hx hb d_p15m30_1 (by decide) ?_
    refine pd_jlt (tgt := 70) hx hb d_p15m30_2 (by decide) (by omega) (by omega) (fun q499 => ?_) (fun q499 => ?_)
    · -- taken: 70
      refine lv_iconst (v := -1) hx hb d_p15m30_70 (by decide) ?_
      exact pd_iret (v := (-1)) X w (Or.inl ⟨(fun z => by have z1 := z.1; omega), rfl, rfl⟩) (by decide) (by decide) d_p15m30_71
    · -- not taken: 5
      refine lv_iload_n hx hb d_p15m30_5 rfl (lv_at hl 1 rfl) ?_
      refine lv_iconst (v := nI 3) hx hb d_p15m30_6 (by decide) ?_
      refine pd_jeq (tgt := 70) hx hb d_p15m30_7 (by decide) (by omega) (by omega) (fun q500 => ?_) (fun q500 => ?_)
      · -- taken: 70
        refine lv_iconst (v := -1) hx hb d_p15m30_70 (by decide) ?_
        exact pd_iret (v := (-1)) X w (Or.inl ⟨(fun z => by have z1 := z.1; omega), rfl, rfl⟩) (by decide) (by decide) d_p15m30_71
      · -- not taken: 10
        refine lv_iload_n hx hb d_p15m30_10 rfl (lv_at hl 1 rfl) ?_
        refine lv_iload_n hx hb d_p15m30_11 rfl (lv_at hl 2 rfl) ?_
        refine pd_zeq (tgt := 19) hx hb d_p15m30_12 (by decide) (by decide) (fun _ => ?_) (fun q => absurd q (by decide))
        refine lv_bipush (v := nI 6) hx hb d_p15m30_19 (by decide) ?_
        refine pd_jgt (tgt := 70) hx hb d_p15m30_21 (by decide) (by omega) (by omega) (fun q502 => ?_) (fun q502 => ?_)
        · -- taken: 70
          refine lv_iconst (v := -1) hx hb d_p15m30_70 (by decide) ?_
          exact pd_iret (v := (-1)) X w (Or.inl ⟨(fun z => by have z1 := z.1; omega), rfl, rfl⟩) (by decide) (by decide) d_p15m30_71
        · -- not taken: 24
          exfalso
          omega
abbrev y_Mod_declareI : MethodName := ⟨"PolicyDeskModel", "declare", "(IZ)I"⟩
theorem ok_Mod_declareI : pd_ok y_Mod_declareI prog_15_method_30_code 8 (some .int) 2 := ⟨mT_1304, mT_21, by decide, by decide +kernel⟩
abbrev rm_Mod_declareI : Room := { frames := 5, cells := 0, slots := 0, locals := 109 }
set_option maxHeartbeats 4000000 in
set_option maxRecDepth 100000 in
theorem lp_Mod_declareI_350 (l : Launch) (G : pd_G) (h : pd_H) {y : Nat} {ad : Nat → Nat} {fv : Nat → Nat → Int32} {iv : Nat → Int32} {tl : Int64} {cs : List Nat} {n : Nat} {R : Nat → pd_cr} {nw : Nat} {sA eA : Nat → Nat} (hMO : pd_MO G h y ad fv iv tl) (hL : gm_L fv iv cs) (hC : gm_C fv iv n R) (hW : gm_W fv cs nw sA eA) (hcut : nw ≤ 6 → (gr_cut cs).1 = nw) (hwd : nw ≤ 6 → ∀ t, t < nw → tx_sub cs (sA t) (eA t) = gr_w cs t) (hgn : nw ≤ 6 → 2 ≤ nw → gm_name cs (sA 1) (eA 1) = eA 1 → gr_name (gr_w cs 1) = true) {p : Program} {e : Env} {s : State} {m : MethodId} {below : List Frame} {meth : Method} {c : Code} (X : pd_B p s m [.ref y, .int (nI nw), .int (nI 1)].toArray meth c G y_Mod_declareI.cls prog_15_method_30_code 8 (some .int)) (hmn : meth.name = y_Mod_declareI.name) :
    ∀ (kk9 : Nat) (ii : Nat) (uq : Nat) (mq : Nat) (fq : Nat) (o1 : Option Nat) (o2 : Option Nat) (fo6 : Nat → Int32) (fo9 : Nat → Int32) (hh : pd_H), (pd_kx [20, 36, 37, 38, 39, 40, 41] h hh) → (pd_MO G hh y ad (pd_fu (pd_fu (pd_fu (pd_fu (pd_fu (pd_fu fv 6 fo6) 7 (upd (fv 7) n (nI ((eA 1) - (sA 1))))) 8 (upd (fv 8) n (nI uq))) 9 fo9) 10 (upd (fv 10) n (nI mq))) 11 (upd (fv 11) n (nI 1))) (iv) tl) → ((2 ≤ nw ∧ ¬ nw = 3 ∧ nw ≤ 5) ∧ gm_name cs (sA 1) (eA 1) = eA 1 ∧ (3 < nw → eA 2 - sA 2 = 1 ∧ cs.getD (sA 2) 0 = 58) ∧ ∀ t, 3 ≤ t → t < nw → gm_name cs (sA t) (eA t) = eA t) → (gr_dc n R cs true 3 = gr_cadd n R (gr_row R n (gr_w cs 1) true (some uq) o1 o2)) → ((o1.toList ++ o2.toList).length = mq) → (∀ t, t < (o1.toList ++ o2.toList).length → fo9 (2 * n + t) = nI ((o1.toList ++ o2.toList).getD t 0)) → (∀ x, x < 2 * n → fo9 x = fv 9 x) → (o1 = none → o2 = none) → (n < 14) → (ii ≤ eA 1 - sA 1) → (∀ t, t < ii → fo6 (24 * n + t) = nI (cs.getD (sA 1 + t) 0)) → (∀ x, x < 24 * n → fo6 x = fv 6 x) → 100 - ii < kk9 → ∀ (H : Heap) (locs : List Loc), pd_w G s H locs hh → ∀ ls : Array Slot, lv_has ls 8 [(7, .int (nI ii)), (6, .int (nI n)), (5, .int (nI mq)), (4, .int (nI fq)), (3, .int (nI uq)), (0, .ref y), (1, .int (nI nw)), (2, .int (nI 1))] → W p l e rm_Mod_declareI s m [.ref y, .int (nI nw), .int (nI 1)].toArray below meth c H locs 0 0 (MQ below (pd_Q G Value.int (fun r h1 => (¬ ((2 ≤ nw ∧ ¬ nw = 3 ∧ nw ≤ 5) ∧ gm_name cs (sA 1) (eA 1) = eA 1 ∧ (3 < nw → eA 2 - sA 2 = 1 ∧ cs.getD (sA 2) 0 = 58) ∧ ∀ t, 3 ≤ t → t < nw → gm_name cs (sA t) (eA t) = eA t) ∧ r = -1 ∧ h = h1) ∨ (((2 ≤ nw ∧ ¬ nw = 3 ∧ nw ≤ 5) ∧ gm_name cs (sA 1) (eA 1) = eA 1 ∧ (3 < nw → eA 2 - sA 2 = 1 ∧ cs.getD (sA 2) 0 = 58) ∧ ∀ t, 3 ≤ t → t < nw → gm_name cs (sA t) (eA t) = eA t) ∧ r = (gr_dc n R cs true 3).1 ∧ pd_kx [20, 36, 37, 38, 39, 40, 41] h h1 ∧ ∃ fv2 iv2, pd_MO G h1 y ad fv2 iv2 tl ∧ gm_fr [6, 7, 8, 9, 10, 11] [12] fv iv fv2 iv2 ∧ gm_C fv2 iv2 (gr_dc n R cs true 3).2.1 (gr_dc n R cs true 3).2.2))) [.ref y, .int (nI nw), .int (nI 1)].toArray s rm_Mod_declareI.cells rm_Mod_declareI.slots (fun q => G.2.1 ≤ q)) (F0 m 350 ls []) := by
  have hx := X.1
  have hb := X.2.1
  have hz_y := hMO.2.1
  have hy0 : h y = some (20, .inr (10, [.ref (ad 0), .ref (ad 1), .ref (ad 2), .int (iv 3), .int (iv 4), .int (iv 5), .ref (ad 6), .ref (ad 7), .ref (ad 8), .ref (ad 9), .ref (ad 10), .ref (ad 11), .int (iv 12), .ref (ad 13), .ref (ad 14), .ref (ad 15), .ref (ad 16), .ref (ad 17), .ref (ad 18), .ref (ad 19), .int (iv 20), .ref (ad 21), .ref (ad 22), .ref (ad 23), .ref (ad 24), .ref (ad 25), .ref (ad 26), .ref (ad 27), .ref (ad 28), .int (iv 29), .ref (ad 30), .ref (ad 31), .int (iv 32), .int (iv 33), .int (iv 34), .int (iv 35), .long tl, .int (iv 37), .int (iv 38), .int (iv 39), .int (iv 40), .ref (ad 41), .ref (ad 42), .int (iv 43)])) := hMO.1
  have ha0 : h (ad 0) = some (30, .inl (.int, 60, .inl (fv 0))) := (hMO.2.2 0 (by decide)).1
  have ha1 : h (ad 1) = some (31, .inl (.int, 40, .inl (fv 1))) := (hMO.2.2 1 (by decide)).1
  have ha2 : h (ad 2) = some (32, .inl (.int, 40, .inl (fv 2))) := (hMO.2.2 2 (by decide)).1
  have ha6 : h (ad 6) = some (36, .inl (.int, 336, .inl (fv 6))) := (hMO.2.2 6 (by decide)).1
  have ha7 : h (ad 7) = some (37, .inl (.int, 14, .inl (fv 7))) := (hMO.2.2 7 (by decide)).1
  have ha8 : h (ad 8) = some (38, .inl (.int, 14, .inl (fv 8))) := (hMO.2.2 8 (by decide)).1
  have ha9 : h (ad 9) = some (39, .inl (.int, 28, .inl (fv 9))) := (hMO.2.2 9 (by decide)).1
  have ha10 : h (ad 10) = some (40, .inl (.int, 14, .inl (fv 10))) := (hMO.2.2 10 (by decide)).1
  have ha11 : h (ad 11) = some (41, .inl (.boolean, 14, .inl (fv 11))) := (hMO.2.2 11 (by decide)).1
  obtain ⟨hiv3, hln, hl60, hlc⟩ := id hL
  obtain ⟨hiv12, hn2, hn14, hCc⟩ := id hC
  have hw31 := hW.1
  intro kk9
  induction kk9 with
  | zero => intros; omega
  | succ kk9 ih =>
    intro ii uq mq fq o1 o2 fo6 fo9 hh hk2 hMO2 hcd hdc hmq h9a hk9 h12 hn9 hi hf6 hk6 hmu H locs w ls hl
    have hz_y := hMO2.2.1
    have hy2 : hh y = some (20, .inr (10, [.ref (ad 0), .ref (ad 1), .ref (ad 2), .int (iv 3), .int (iv 4), .int (iv 5), .ref (ad 6), .ref (ad 7), .ref (ad 8), .ref (ad 9), .ref (ad 10), .ref (ad 11), .int (iv 12), .ref (ad 13), .ref (ad 14), .ref (ad 15), .ref (ad 16), .ref (ad 17), .ref (ad 18), .ref (ad 19), .int (iv 20), .ref (ad 21), .ref (ad 22), .ref (ad 23), .ref (ad 24), .ref (ad 25), .ref (ad 26), .ref (ad 27), .ref (ad 28), .int (iv 29), .ref (ad 30), .ref (ad 31), .int (iv 32), .int (iv 33), .int (iv 34), .int (iv 35), .long tl, .int (iv 37), .int (iv 38), .int (iv 39), .int (iv 40), .ref (ad 41), .ref (ad 42), .int (iv 43)])) := hMO2.1
    have ha0 : hh (ad 0) = some (30, .inl (.int, 60, .inl (fv 0))) := (hMO2.2.2 0 (by decide)).1
    have ha1 : hh (ad 1) = some (31, .inl (.int, 40, .inl (fv 1))) := (hMO2.2.2 1 (by decide)).1
    have ha2 : hh (ad 2) = some (32, .inl (.int, 40, .inl (fv 2))) := (hMO2.2.2 2 (by decide)).1
    have ha6 : hh (ad 6) = some (36, .inl (.int, 336, .inl (fo6))) := (hMO2.2.2 6 (by decide)).1
    have ha7 : hh (ad 7) = some (37, .inl (.int, 14, .inl (upd (fv 7) n (nI ((eA 1) - (sA 1)))))) := (hMO2.2.2 7 (by decide)).1
    have ha8 : hh (ad 8) = some (38, .inl (.int, 14, .inl (upd (fv 8) n (nI uq)))) := (hMO2.2.2 8 (by decide)).1
    have ha9 : hh (ad 9) = some (39, .inl (.int, 28, .inl (fo9))) := (hMO2.2.2 9 (by decide)).1
    have ha10 : hh (ad 10) = some (40, .inl (.int, 14, .inl (upd (fv 10) n (nI mq)))) := (hMO2.2.2 10 (by decide)).1
    have ha11 : hh (ad 11) = some (41, .inl (.boolean, 14, .inl (upd (fv 11) n (nI 1)))) := (hMO2.2.2 11 (by decide)).1
    have hcd1 := hcd.1
    have hwl1 := (hW.2 1 (by omega)).2.2
    have hwk1 := hwd (by omega) 1 (by omega)
    have hgn1 := hgn (by omega) (by omega) hcd.2.1
    have hl24 := gm_name24 hgn1
    have hl25 := hl24
    rw [← hwk1, tx_sub_len (by omega)] at hl25
    refine lv_iload hx hb d_p15m30_350 (lv_at hl 0 rfl) ?_
    refine lv_aload_n hx hb d_p15m30_352 rfl (lv_at hl 5 rfl) ?_
    refine pd_get X w hy2 rfl 7 (by decide) mT_1146 rfl rfl d_p15m30_353 ?_
    refine lv_iload hx hb d_p15m30_356 (lv_at hl 1 rfl) ?_
    refine pd_iald X w ha7 (by omega) (by omega) d_p15m30_358 ?_
    refine pd_top (v' := .int (nI ((eA 1) - (sA 1)))) (by rw [pk_us]) ?_
    refine pd_jge (tgt := 395) hx hb d_p15m30_359 (by decide) (by omega) (by omega) (fun q1 => ?_) (fun q1 => ?_)
    · -- taken: 395
      refine lv_aload_n hx hb d_p15m30_395 rfl (lv_at hl 5 rfl) ?_
      refine lv_dup hx hb d_p15m30_396 rfl ?_
      refine pd_get X w hy2 rfl 12 (by decide) mT_1151 rfl rfl d_p15m30_397 ?_
      refine pd_top (v' := .int (nI n)) (congrArg Value.int hiv12) ?_
      refine lv_iconst (v := nI 1) hx hb d_p15m30_400 (by decide) ?_
      refine pd_iadd hx hb d_p15m30_401 ?_
      refine pd_put (ty := .int) X w hy2 hz_y rfl 12 (by decide) mT_1151 rfl rfl (by decide +kernel) rfl rfl (Nat.le_of_ble_eq_true rfl) d_p15m30_402 (fun H locs w => ?_)
      have w : pd_w G s H locs (pd_up hh y (20, .inr (10, [.ref (ad 0), .ref (ad 1), .ref (ad 2), .int (iv 3), .int (iv 4), .int (iv 5), .ref (ad 6), .ref (ad 7), .ref (ad 8), .ref (ad 9), .ref (ad 10), .ref (ad 11), .int (nI (n + 1)), .ref (ad 13), .ref (ad 14), .ref (ad 15), .ref (ad 16), .ref (ad 17), .ref (ad 18), .ref (ad 19), .int (iv 20), .ref (ad 21), .ref (ad 22), .ref (ad 23), .ref (ad 24), .ref (ad 25), .ref (ad 26), .ref (ad 27), .ref (ad 28), .int (iv 29), .ref (ad 30), .ref (ad 31), .int (iv 32), .int (iv 33), .int (iv 34), .int (iv 35), .long tl, .int (iv 37), .int (iv 38), .int (iv 39), .int (iv 40), .ref (ad 41), .ref (ad 42), .int (iv 43)]))) := w
      obtain ⟨h2, u5⟩ : ∃ z, z = pd_up hh y (20, .inr (10, [.ref (ad 0), .ref (ad 1), .ref (ad 2), .int (iv 3), .int (iv 4), .int (iv 5), .ref (ad 6), .ref (ad 7), .ref (ad 8), .ref (ad 9), .ref (ad 10), .ref (ad 11), .int (nI (n + 1)), .ref (ad 13), .ref (ad 14), .ref (ad 15), .ref (ad 16), .ref (ad 17), .ref (ad 18), .ref (ad 19), .int (iv 20), .ref (ad 21), .ref (ad 22), .ref (ad 23), .ref (ad 24), .ref (ad 25), .ref (ad 26), .ref (ad 27), .ref (ad 28), .int (iv 29), .ref (ad 30), .ref (ad 31), .int (iv 32), .int (iv 33), .int (iv 34), .int (iv 35), .long tl, .int (iv 37), .int (iv 38), .int (iv 39), .int (iv 40), .ref (ad 41), .ref (ad 42), .int (iv 43)])) := ⟨_, rfl⟩
      rw [← u5] at w
      have k3 : pd_kq y hh h2 := by rw [u5]; exact pd_up_kq
      have f4 : h2 y = some (20, .inr (10, [.ref (ad 0), .ref (ad 1), .ref (ad 2), .int (iv 3), .int (iv 4), .int (iv 5), .ref (ad 6), .ref (ad 7), .ref (ad 8), .ref (ad 9), .ref (ad 10), .ref (ad 11), .int (nI (n + 1)), .ref (ad 13), .ref (ad 14), .ref (ad 15), .ref (ad 16), .ref (ad 17), .ref (ad 18), .ref (ad 19), .int (iv 20), .ref (ad 21), .ref (ad 22), .ref (ad 23), .ref (ad 24), .ref (ad 25), .ref (ad 26), .ref (ad 27), .ref (ad 28), .int (iv 29), .ref (ad 30), .ref (ad 31), .int (iv 32), .int (iv 33), .int (iv 34), .int (iv 35), .long tl, .int (iv 37), .int (iv 38), .int (iv 39), .int (iv 40), .ref (ad 41), .ref (ad 42), .int (iv 43)])) := by rw [u5]; exact pd_up_s _ _ _
      have f6 := k3 _ _ (pd_ne ha0 hy2 (by simp)) ha0
      have f7 := k3 _ _ (pd_ne ha1 hy2 (by simp)) ha1
      have f8 := k3 _ _ (pd_ne ha2 hy2 (by simp)) ha2
      have f9 := k3 _ _ (pd_ne ha6 hy2 (by simp)) ha6
      have f10 := k3 _ _ (pd_ne ha7 hy2 (by simp)) ha7
      have f11 := k3 _ _ (pd_ne ha8 hy2 (by simp)) ha8
      have f12 := k3 _ _ (pd_ne ha9 hy2 (by simp)) ha9
      have f13 := k3 _ _ (pd_ne ha10 hy2 (by simp)) ha10
      have f14 := k3 _ _ (pd_ne ha11 hy2 (by simp)) ha11
      refine lv_iload hx hb d_p15m30_405 (lv_at hl 1 rfl) ?_
      have hg : gr_dc n R cs true 3 = (nI n, n + 1, pd_fu R n (gr_row R n (gr_w cs 1) true (some uq) o1 o2)) := hdc.trans (gr_cadd_y hn9)
      have mo15 : pd_MO G h2 y ad (pd_fu (pd_fu (pd_fu (pd_fu (pd_fu (pd_fu fv 6 fo6) 7 (upd (fv 7) n (nI ((eA 1) - (sA 1))))) 8 (upd (fv 8) n (nI uq))) 9 fo9) 10 (upd (fv 10) n (nI mq))) 11 (upd (fv 11) n (nI 1))) (pd_fu iv 12 (nI (n + 1))) tl := pd_MO.of (ts := [20]) hMO2 (pd_kq.kx (k3) hy2) f4 (fun j hj => Or.inr ⟨fun z => by first | (simp at z; done) | (simp at z; omega), rfl⟩)
      exact pd_iret (v := (nI n)) X w (Or.inr ⟨hcd, by rw [hg], hk2.tr (pd_kx.mono (us := [20, 36, 37, 38, 39, 40, 41]) (pd_kq.kx (k3) hy2) (by simp)), _, _, mo15, ⟨fun j hj => by simp at hj; simp [pd_fu, hj], fun j hj => by simp at hj; simp [pd_fu, hj]⟩, (by rw [hg]; exact gm_C_add (row := gr_row R n (gr_w cs 1) true (some uq) o1 o2) hC hn9 rfl (by show _ = upd (fv 7) n (nI (gr_w cs 1).length); rw [← hwk1, tx_sub_len (by omega)]; rfl) hl24 (by show ∀ x ∈ gr_w cs 1, x < 256; rw [← hwk1]; exact tx_sub_lt hlc) (fun t ht => by have ht : t < (gr_w cs 1).length := ht; show fo6 _ = nI ((gr_w cs 1).getD t 0); rw [← hwk1, tx_sub_len (by omega)] at ht; rw [← hwk1, tx_sub_get ht]; exact hf6 t (by omega)) hk6 rfl rfl (by show upd (fv 10) n (nI mq) = upd (fv 10) n (nI (o1.toList ++ o2.toList).length); rw [hmq]) h9a hk9 h12 hgn1)⟩) (by decide) (by decide) d_p15m30_407
    · -- not taken: 362
      refine lv_aload_n hx hb d_p15m30_362 rfl (lv_at hl 5 rfl) ?_
      refine pd_get X w hy2 rfl 6 (by decide) mT_1145 rfl rfl d_p15m30_363 ?_
      refine lv_bipush (v := nI 24) hx hb d_p15m30_366 (by decide) ?_
      refine lv_iload hx hb d_p15m30_368 (lv_at hl 1 rfl) ?_
      refine pd_imul hx hb d_p15m30_370 ?_
      refine lv_iload hx hb d_p15m30_371 (lv_at hl 0 rfl) ?_
      refine pd_iadd hx hb d_p15m30_373 ?_
      refine lv_aload_n hx hb d_p15m30_374 rfl (lv_at hl 5 rfl) ?_
      refine pd_get X w hy2 rfl 0 (by decide) mT_1139 rfl rfl d_p15m30_375 ?_
      refine lv_aload_n hx hb d_p15m30_378 rfl (lv_at hl 5 rfl) ?_
      refine pd_get X w hy2 rfl 1 (by decide) mT_1140 rfl rfl d_p15m30_379 ?_
      refine lv_iconst (v := nI 1) hx hb d_p15m30_382 (by decide) ?_
      refine pd_iald X w ha1 (by omega) (by omega) d_p15m30_383 ?_
      refine pd_top (v' := .int (nI (sA 1))) (congrArg Value.int (hW.2 1 (by omega)).1) ?_
      refine lv_iload hx hb d_p15m30_384 (lv_at hl 0 rfl) ?_
      refine pd_iadd hx hb d_p15m30_386 ?_
      refine pd_iald X w ha0 (by omega) (by omega) d_p15m30_387 ?_
      refine pd_top (v' := .int (nI (cs.getD ((sA 1) + ii) 0))) (congrArg Value.int (hln _ (by omega))) ?_
      have := tx_lt hlc ((sA 1) + ii)
      refine pd_iast X w ha6 (hMO.2.2 6 (by decide)).2 (by omega) (by omega) d_p15m30_388 (fun H locs w => ?_)
      have w : pd_w G s H locs (pd_up hh (ad 6) (36, .inl (.int, 336, .inl (upd fo6 ((24 * n) + ii) (nI (cs.getD ((sA 1) + ii) 0)))))) := w
      obtain ⟨h16, u19⟩ : ∃ z, z = pd_up hh (ad 6) (36, .inl (.int, 336, .inl (upd fo6 ((24 * n) + ii) (nI (cs.getD ((sA 1) + ii) 0))))) := ⟨_, rfl⟩
      rw [← u19] at w
      have k17 : pd_kq (ad 6) hh h16 := by rw [u19]; exact pd_up_kq
      have f18 : h16 (ad 6) = some (36, .inl (.int, 336, .inl (upd fo6 ((24 * n) + ii) (nI (cs.getD ((sA 1) + ii) 0))))) := by rw [u19]; exact pd_up_s _ _ _
      have f20 := k17 _ _ (pd_ne hy2 ha6 (by simp)) hy2
      have f21 := k17 _ _ (pd_ne ha0 ha6 (by simp)) ha0
      have f22 := k17 _ _ (pd_ne ha1 ha6 (by simp)) ha1
      have f23 := k17 _ _ (pd_ne ha2 ha6 (by simp)) ha2
      have f24 := k17 _ _ (pd_ne ha7 ha6 (by simp)) ha7
      have f25 := k17 _ _ (pd_ne ha8 ha6 (by simp)) ha8
      have f26 := k17 _ _ (pd_ne ha9 ha6 (by simp)) ha9
      have f27 := k17 _ _ (pd_ne ha10 ha6 (by simp)) ha10
      have f28 := k17 _ _ (pd_ne ha11 ha6 (by simp)) ha11
      refine pd_iinc (k := 0) (d := 1) (lv' := [(7, .int (nI (ii + 1))), (6, .int (nI n)), (5, .int (nI mq)), (4, .int (nI fq)), (3, .int (nI uq)), (0, .ref y), (1, .int (nI nw)), (2, .int (nI 1))]) hx hb d_p15m30_389 (by decide) hl rfl (by decide) rfl (fun ls hl => ?_)
      refine lv_goto (tgt := 350) hx hb d_p15m30_392 (by decide) ?_
      have mo29 : pd_MO G h16 y ad (pd_fu (pd_fu (pd_fu (pd_fu (pd_fu (pd_fu (pd_fu fv 6 fo6) 7 (upd (fv 7) n (nI ((eA 1) - (sA 1))))) 8 (upd (fv 8) n (nI uq))) 9 fo9) 10 (upd (fv 10) n (nI mq))) 11 (upd (fv 11) n (nI 1))) 6 (upd fo6 ((24 * n) + ii) (nI (cs.getD ((sA 1) + ii) 0)))) iv tl := pd_MO.of (ts := [36]) hMO2 (pd_kq.kx (k17) ha6) f20 (fun j hj => if e6 : j = 6 then by subst e6; exact Or.inl f18 else Or.inr ⟨fun z => by first | (simp at z; done) | (simp at z; omega), by rw [pd_fu_n e6]⟩)
      exact ih (ii + 1) uq mq fq o1 o2 (upd fo6 ((24 * n) + ii) (nI (cs.getD ((sA 1) + ii) 0))) fo9 h16 (hk2.tr (pd_kx.mono (us := [20, 36, 37, 38, 39, 40, 41]) (pd_kq.kx (k17) ha6) (by simp))) ((pd_MO.ext (fv2 := pd_fu (pd_fu (pd_fu (pd_fu (pd_fu (pd_fu fv 6 (upd fo6 ((24 * n) + ii) (nI (cs.getD ((sA 1) + ii) 0)))) 7 (upd (fv 7) n (nI ((eA 1) - (sA 1))))) 8 (upd (fv 8) n (nI uq))) 9 fo9) 10 (upd (fv 10) n (nI mq))) 11 (upd (fv 11) n (nI 1))) (iv2 := iv) mo29 (fun j9 hj9 => by by_cases e906 : j9 = 6; subst e906; rfl; by_cases e907 : j9 = 7; subst e907; rfl; by_cases e908 : j9 = 8; subst e908; rfl; by_cases e909 : j9 = 9; subst e909; rfl; by_cases e910 : j9 = 10; subst e910; rfl; by_cases e911 : j9 = 11; subst e911; rfl; simp only [pd_fu, if_neg e906, if_neg e907, if_neg e908, if_neg e909, if_neg e910, if_neg e911]) rfl)) (hcd) (hdc) (hmq) (h9a) (hk9) (h12) (by omega) (by omega) (fun t ht => by by_cases e9 : t = ii; subst e9; rw [pk_us]; rw [pk_un (by omega)]; exact hf6 t (by omega)) (fun x hx => by rw [pk_un (by omega)]; exact hk6 x hx) (by omega) _ _ w ls (lv_sub hl [0, 1, 2, 3, 4, 5, 6, 7] rfl)
set_option maxHeartbeats 4000000 in
set_option maxRecDepth 100000 in
theorem c_Mod_declareI (l : Launch) (G : pd_G) (h : pd_H) {y : Nat} {ad : Nat → Nat} {fv : Nat → Nat → Int32} {iv : Nat → Int32} {tl : Int64} {cs : List Nat} {n : Nat} {R : Nat → pd_cr} {nw : Nat} {sA eA : Nat → Nat} (hMO : pd_MO G h y ad fv iv tl) (hL : gm_L fv iv cs) (hC : gm_C fv iv n R) (hW : gm_W fv cs nw sA eA) (hcut : nw ≤ 6 → (gr_cut cs).1 = nw) (hwd : nw ≤ 6 → ∀ t, t < nw → tx_sub cs (sA t) (eA t) = gr_w cs t) (hgn : nw ≤ 6 → 2 ≤ nw → gm_name cs (sA 1) (eA 1) = eA 1 → gr_name (gr_w cs 1) = true) : pd_M l y_Mod_declareI prog_15_method_30_code 8 (some .int) rm_Mod_declareI G h [.ref y, .int (nI nw), .int (nI 1)] Value.int (fun r h1 => (¬ ((2 ≤ nw ∧ ¬ nw = 3 ∧ nw ≤ 5) ∧ gm_name cs (sA 1) (eA 1) = eA 1 ∧ (3 < nw → eA 2 - sA 2 = 1 ∧ cs.getD (sA 2) 0 = 58) ∧ ∀ t, 3 ≤ t → t < nw → gm_name cs (sA t) (eA t) = eA t) ∧ r = -1 ∧ h = h1) ∨ (((2 ≤ nw ∧ ¬ nw = 3 ∧ nw ≤ 5) ∧ gm_name cs (sA 1) (eA 1) = eA 1 ∧ (3 < nw → eA 2 - sA 2 = 1 ∧ cs.getD (sA 2) 0 = 58) ∧ ∀ t, 3 ≤ t → t < nw → gm_name cs (sA t) (eA t) = eA t) ∧ r = (gr_dc n R cs true 3).1 ∧ pd_kx [20, 36, 37, 38, 39, 40, 41] h h1 ∧ ∃ fv2 iv2, pd_MO G h1 y ad fv2 iv2 tl ∧ gm_fr [6, 7, 8, 9, 10, 11] [12] fv iv fv2 iv2 ∧ gm_C fv2 iv2 (gr_dc n R cs true 3).2.1 (gr_dc n R cs true 3).2.2)) := by
  refine pd_M.of (by decide) (Nat.le_of_ble_eq_true rfl) ?_
  intro p e s m below meth c X hmn w ls hl
  have hx := X.1
  have hb := X.2.1
  have hl : lv_has ls 8 [(0, .ref y), (1, .int (nI nw)), (2, .int (nI 1))] := hl
  have hz_y := hMO.2.1
  have hy0 : h y = some (20, .inr (10, [.ref (ad 0), .ref (ad 1), .ref (ad 2), .int (iv 3), .int (iv 4), .int (iv 5), .ref (ad 6), .ref (ad 7), .ref (ad 8), .ref (ad 9), .ref (ad 10), .ref (ad 11), .int (iv 12), .ref (ad 13), .ref (ad 14), .ref (ad 15), .ref (ad 16), .ref (ad 17), .ref (ad 18), .ref (ad 19), .int (iv 20), .ref (ad 21), .ref (ad 22), .ref (ad 23), .ref (ad 24), .ref (ad 25), .ref (ad 26), .ref (ad 27), .ref (ad 28), .int (iv 29), .ref (ad 30), .ref (ad 31), .int (iv 32), .int (iv 33), .int (iv 34), .int (iv 35), .long tl, .int (iv 37), .int (iv 38), .int (iv 39), .int (iv 40), .ref (ad 41), .ref (ad 42), .int (iv 43)])) := hMO.1
  have ha0 : h (ad 0) = some (30, .inl (.int, 60, .inl (fv 0))) := (hMO.2.2 0 (by decide)).1
  have ha1 : h (ad 1) = some (31, .inl (.int, 40, .inl (fv 1))) := (hMO.2.2 1 (by decide)).1
  have ha2 : h (ad 2) = some (32, .inl (.int, 40, .inl (fv 2))) := (hMO.2.2 2 (by decide)).1
  have ha6 : h (ad 6) = some (36, .inl (.int, 336, .inl (fv 6))) := (hMO.2.2 6 (by decide)).1
  have ha7 : h (ad 7) = some (37, .inl (.int, 14, .inl (fv 7))) := (hMO.2.2 7 (by decide)).1
  have ha8 : h (ad 8) = some (38, .inl (.int, 14, .inl (fv 8))) := (hMO.2.2 8 (by decide)).1
  have ha9 : h (ad 9) = some (39, .inl (.int, 28, .inl (fv 9))) := (hMO.2.2 9 (by decide)).1
  have ha10 : h (ad 10) = some (40, .inl (.int, 14, .inl (fv 10))) := (hMO.2.2 10 (by decide)).1
  have ha11 : h (ad 11) = some (41, .inl (.boolean, 14, .inl (fv 11))) := (hMO.2.2 11 (by decide)).1
  obtain ⟨hiv3, hln, hl60, hlc⟩ := id hL
  obtain ⟨hiv12, hn2, hn14, hCc⟩ := id hC
  have hw31 := hW.1
  rcases (show nw = 2 ∨ nw = 4 ∨ nw = 5 ∨ nw = 6 ∨ (¬ nw = 2 ∧ ¬ nw = 4 ∧ ¬ nw = 5 ∧ ¬ nw = 6) by omega) with rfl | rfl | rfl | rfl | hno
  · -- nw = 2
    have hl : lv_has ls 8 [(0, .ref y), (1, .int (nI 2)), (2, .int (nI 1))] := hl
    refine lv_iload_n hx hb d_p15m30_0 rfl (lv_at hl 1 rfl) ?_
    refine lv_iconst (v := nI 2) hx hb d_p15m30_1 (by decide) ?_
    refine pd_jlt (tgt := 70) hx hb d_p15m30_2 (by decide) (by decide) (by decide) (fun q => absurd q (by decide)) (fun _ => ?_)
    refine lv_iload_n hx hb d_p15m30_5 rfl (lv_at hl 1 rfl) ?_
    refine lv_iconst (v := nI 3) hx hb d_p15m30_6 (by decide) ?_
    refine pd_jeq (tgt := 70) hx hb d_p15m30_7 (by decide) (by decide) (by decide) (fun q => absurd q (by decide)) (fun _ => ?_)
    refine lv_iload_n hx hb d_p15m30_10 rfl (lv_at hl 1 rfl) ?_
    refine lv_iload_n hx hb d_p15m30_11 rfl (lv_at hl 2 rfl) ?_
    refine pd_zeq (tgt := 19) hx hb d_p15m30_12 (by decide) (by decide) (fun q => absurd q (by decide)) (fun _ => ?_)
    refine lv_iconst (v := nI 5) hx hb d_p15m30_15 (by decide) ?_
    refine lv_goto (tgt := 21) hx hb d_p15m30_16 (by decide) ?_
    refine pd_jgt (tgt := 70) hx hb d_p15m30_21 (by decide) (by decide) (by decide) (fun q => absurd q (by decide)) (fun _ => ?_)
    refine lv_aload_n hx hb d_p15m30_24 rfl (lv_at hl 0 rfl) ?_
    refine lv_iconst (v := nI 1) hx hb d_p15m30_25 (by decide) ?_
    refine pd_cV (a := y) (As := [.int (nI 1)]) (rest := []) X w hy0 rfl (c_Mod_isName l G h (cs := cs) (nw := 2) (sA := sA) (eA := eA) (ad := ad) (fv := fv) (iv := iv) (tl := tl) hMO hL hW (by omega)) ok_Mod_isName ⟨mT_1307, sT_17⟩ mT_1305 ⟨by decide, by decide⟩ rfl hl.1 rfl (Nat.le_of_ble_eq_true rfl) d_p15m30_26 ⟨by decide, by decide⟩ (fun r5 h6 H locs hp7 w => ?_)
    refine W.widen (k := 0) (n := 0) (by decide) (by decide) ?_
    obtain ⟨e8, rfl⟩ := hp7
    refine pd_beq (tgt := 70) hx hb d_p15m30_29 (by decide) (fun q9 => ?_) (fun q9 => ?_)
    · -- taken: 70
      refine lv_iconst (v := -1) hx hb d_p15m30_70 (by decide) ?_
      exact pd_iret (v := (-1)) X w (Or.inl ⟨(fun z => of_decide_eq_false (e8.symm.trans q9) z.2.1), rfl, rfl⟩) (by decide) (by decide) d_p15m30_71
    · -- not taken: 32
      have hnm1 : gm_name cs (sA 1) (eA 1) = eA 1 := of_decide_eq_true (e8.symm.trans q9)
      refine lv_iload_n hx hb d_p15m30_32 rfl (lv_at hl 1 rfl) ?_
      refine lv_iconst (v := nI 3) hx hb d_p15m30_33 (by decide) ?_
      refine pd_jle (tgt := 72) hx hb d_p15m30_34 (by decide) (by decide) (by decide) (fun _ => ?_) (fun q => absurd q (by decide))
      refine lv_iconst (v := nI 3) hx hb d_p15m30_72 (by decide) ?_
      refine lv_istore_n (lv' := [(3, .int (nI 3)), (0, .ref y), (1, .int (nI 2)), (2, .int (nI 1))]) hx hb d_p15m30_73 rfl hl (by decide) rfl (fun ls hl => ?_)
      refine lv_iload_n hx hb d_p15m30_74 rfl (lv_at hl 0 rfl) ?_
      refine lv_iload_n hx hb d_p15m30_75 rfl (lv_at hl 2 rfl) ?_
      refine pd_jge (tgt := 95) hx hb d_p15m30_76 (by decide) (by decide) (by decide) (fun _ => ?_) (fun q => absurd q (by decide))
      have hcd : (2 ≤ 2 ∧ ¬ 2 = 3 ∧ 2 ≤ 5) ∧ gm_name cs (sA 1) (eA 1) = eA 1 ∧ (3 < 2 → eA 2 - sA 2 = 1 ∧ cs.getD (sA 2) 0 = 58) ∧ ∀ t, 3 ≤ t → t < 2 → gm_name cs (sA t) (eA t) = eA t := ⟨⟨by omega, by omega, by omega⟩, hnm1, fun z => by omega, fun t h3 h5 => by omega⟩
      have hcu : (gr_cut cs).1 = 2 := hcut (by omega)
      have hwk := hwd (by omega)
      refine lv_iconst (v := nI 3) hx hb d_p15m30_95 (by decide) ?_
      refine lv_istore_n (lv' := [(3, .int (nI 3)), (0, .ref y), (1, .int (nI 2)), (2, .int (nI 1))]) hx hb d_p15m30_96 rfl hl (by decide) rfl (fun ls hl => ?_)
      refine lv_iload_n hx hb d_p15m30_97 rfl (lv_at hl 0 rfl) ?_
      refine lv_iload_n hx hb d_p15m30_98 rfl (lv_at hl 2 rfl) ?_
      refine pd_jge (tgt := 119) hx hb d_p15m30_99 (by decide) (by decide) (by decide) (fun _ => ?_) (fun q => absurd q (by decide))
      have hup : gr_up n R cs true = some 0 := by unfold gr_up; rw [if_neg (fun z => by have z1 := z.1; cases z1)]
      have hfa : gr_find R n (gr_w cs 3) = none := gm_find_w hC (by omega)
      have hfb : gr_find R n (gr_w cs 4) = none := gm_find_w hC (by omega)
      have hnl : ¬ (((none : Option Nat) = none ∧ 3 < (gr_cut cs).1) ∨ ((none : Option Nat) = none ∧ 4 < (gr_cut cs).1)) := by rw [hcu]; simp
      refine lv_aload_n hx hb d_p15m30_119 rfl (lv_at hl 1 rfl) ?_
      refine lv_iconst (v := nI 1) hx hb d_p15m30_120 (by decide) ?_
      refine pd_cV (a := y) (As := [.int (nI 1)]) (rest := []) X w hy0 rfl (c_Mod_classOf l G h (cs := cs) (nw := 2) (sA := sA) (eA := eA) (n := n) (R := R) (ad := ad) (fv := fv) (iv := iv) (tl := tl) hMO hL hW (by omega) hC) ok_Mod_classOf ⟨mT_1322, sT_20⟩ mT_1320 ⟨by decide, by decide⟩ rfl hl.1 rfl (Nat.le_of_ble_eq_true rfl) d_p15m30_121 ⟨by decide, by decide⟩ (fun r13 h14 H locs hp15 w => ?_)
      refine W.widen (k := 0) (n := 0) (by decide) (by decide) ?_
      obtain ⟨e16, rfl⟩ := hp15
      refine pd_mlt (tgt := 130) hx hb d_p15m30_124 (by decide) (fun x hx => by have z := gr_fi_lt (e16.symm.trans hx); omega) (fun q17 => ?_) (fun j18 q17 => ?_)
      · -- none: 130
        rw [q17] at e16
        have hq1 : gr_find R n (gr_w cs 1) = none := by rw [← hwk 1 (by omega)]; exact e16.symm
        refine lv_iload_n hx hb d_p15m30_130 rfl (lv_at hl 3 rfl) ?_
        refine pd_zne (tgt := 147) hx hb d_p15m30_131 (by decide) (by decide) (fun _ => ?_) (fun q => absurd q (by decide))
        refine lv_iconst (v := nI 0) hx hb d_p15m30_147 (by decide) ?_
        refine lv_istore_n (lv' := [(3, .int (nI 0)), (0, .ref y), (1, .int (nI 2)), (2, .int (nI 1))]) hx hb d_p15m30_148 rfl hl (by decide) rfl (fun ls hl => ?_)
        refine lv_iload_n hx hb d_p15m30_149 rfl (lv_at hl 3 rfl) ?_
        refine pd_zeq (tgt := 157) hx hb d_p15m30_150 (by decide) (by decide) (fun q => absurd q (by decide)) (fun _ => ?_)
        refine lv_iconst (v := nI 3) hx hb d_p15m30_153 (by decide) ?_
        refine lv_goto (tgt := 158) hx hb d_p15m30_154 (by decide) ?_
        refine lv_istore (lv' := [(4, .int (nI 3)), (3, .int (nI 0)), (0, .ref y), (1, .int (nI 2)), (2, .int (nI 1))]) hx hb d_p15m30_158 hl (by decide) rfl (fun ls hl => ?_)
        refine lv_iload_n hx hb d_p15m30_160 rfl (lv_at hl 3 rfl) ?_
        refine lv_iload hx hb d_p15m30_161 (lv_at hl 0 rfl) ?_
        refine pd_jle (tgt := 173) hx hb d_p15m30_163 (by decide) (by decide) (by decide) (fun _ => ?_) (fun q => absurd q (by decide))
        refine lv_iconst (v := nI 0) hx hb d_p15m30_173 (by decide) ?_
        refine lv_istore (lv' := [(5, .int (nI 0)), (4, .int (nI 3)), (3, .int (nI 0)), (0, .ref y), (1, .int (nI 2)), (2, .int (nI 1))]) hx hb d_p15m30_174 hl (by decide) rfl (fun ls hl => ?_)
        refine lv_aload_n hx hb d_p15m30_176 rfl (lv_at hl 3 rfl) ?_
        refine pd_get X w hy0 rfl 11 (by decide) mT_1150 rfl rfl d_p15m30_177 ?_
        refine lv_iload_n hx hb d_p15m30_180 rfl (lv_at hl 2 rfl) ?_
        refine pd_zald X w ha11 (by omega) (by omega) d_p15m30_181 ?_
        refine pd_top (v' := .int (pd_b ((R 0).2.1))) (congrArg Value.int (hCc 0 (by omega)).2.2.2.2.2.1) ?_
        refine pd_beq (tgt := 188) hx hb d_p15m30_182 (by decide) (fun q22 => ?_) (fun q22 => ?_)
        · -- taken: 188
          refine lv_iload hx hb d_p15m30_188 (lv_at hl 1 rfl) ?_
          refine lv_istore (lv' := [(6, .int (nI 3)), (5, .int (nI 0)), (4, .int (nI 3)), (3, .int (nI 0)), (0, .ref y), (1, .int (nI 2)), (2, .int (nI 1))]) hx hb d_p15m30_190 hl (by decide) rfl (fun ls hl => ?_)
          refine lv_iload hx hb d_p15m30_192 (lv_at hl 0 rfl) ?_
          refine lv_iload_n hx hb d_p15m30_194 rfl (lv_at hl 5 rfl) ?_
          refine pd_jge (tgt := 221) hx hb d_p15m30_195 (by decide) (by decide) (by decide) (fun _ => ?_) (fun q => absurd q (by decide))
          refine lv_iload hx hb d_p15m30_221 (lv_at hl 1 rfl) ?_
          refine lv_iconst (v := nI 2) hx hb d_p15m30_223 (by decide) ?_
          refine pd_jne (tgt := 247) hx hb d_p15m30_224 (by decide) (by decide) (by decide) (fun _ => ?_) (fun q => absurd q (by decide))
          have hn4 : ¬ ((R 0).2.1 = true ∨ gr_pc R none = true ∨ gr_pc R none = true ∨ (¬ (none : Option Nat) = none ∧ (none : Option Nat) = none)) := by simp [gr_pc, q22]
          refine lv_aload_n hx hb d_p15m30_247 rfl (lv_at hl 4 rfl) ?_
          refine pd_get X w hy0 rfl 12 (by decide) mT_1151 rfl rfl d_p15m30_248 ?_
          refine pd_top (v' := .int (nI n)) (congrArg Value.int hiv12) ?_
          refine lv_bipush (v := nI 14) hx hb d_p15m30_251 (by decide) ?_
          refine pd_jne (tgt := 259) hx hb d_p15m30_253 (by decide) (by omega) (by omega) (fun q25 => ?_) (fun q25 => ?_)
          · -- taken: 259
            refine lv_aload_n hx hb d_p15m30_259 rfl (lv_at hl 4 rfl) ?_
            refine pd_get X w hy0 rfl 12 (by decide) mT_1151 rfl rfl d_p15m30_260 ?_
            refine pd_top (v' := .int (nI n)) (congrArg Value.int hiv12) ?_
            refine lv_istore (lv' := [(6, .int (nI n)), (5, .int (nI 0)), (4, .int (nI 3)), (3, .int (nI 0)), (0, .ref y), (1, .int (nI 2)), (2, .int (nI 1))]) hx hb d_p15m30_263 hl (by decide) rfl (fun ls hl => ?_)
            refine lv_iconst (v := nI 0) hx hb d_p15m30_265 (by decide) ?_
            refine lv_istore (lv' := [(7, .int (nI 0)), (6, .int (nI n)), (5, .int (nI 0)), (4, .int (nI 3)), (3, .int (nI 0)), (0, .ref y), (1, .int (nI 2)), (2, .int (nI 1))]) hx hb d_p15m30_266 hl (by decide) rfl (fun ls hl => ?_)
            refine lv_iload hx hb d_p15m30_268 (lv_at hl 0 rfl) ?_
            refine lv_iload hx hb d_p15m30_270 (lv_at hl 2 rfl) ?_
            refine pd_jge (tgt := 302) hx hb d_p15m30_272 (by decide) (by decide) (by decide) (fun _ => ?_) (fun q => absurd q (by decide))
            have hwl1 := (hW.2 1 (by omega)).2.2
            have hdc : gr_dc n R cs true 3 = gr_cadd n R (gr_row R n (gr_w cs 1) true (some 0) none none) := by have z9 := gr_dc_r (n := n) (R := R) (cs := cs) (bi := true) (ff := 3) (i := 0) (by rw [hup, hfa, hfb, gr_hd_s, if_neg hnl, if_neg (fun y => y hq1), if_neg hn4]); rw [hfa, hfb] at z9; exact z9
            refine lv_aload_n hx hb d_p15m30_302 rfl (lv_at hl 5 rfl) ?_
            refine pd_get X w hy0 rfl 10 (by decide) mT_1149 rfl rfl d_p15m30_303 ?_
            refine lv_iload hx hb d_p15m30_306 (lv_at hl 1 rfl) ?_
            refine lv_iload hx hb d_p15m30_308 (lv_at hl 2 rfl) ?_
            refine pd_iast X w ha10 (hMO.2.2 10 (by decide)).2 (by omega) (by omega) d_p15m30_310 (fun H locs w => ?_)
            have w : pd_w G s H locs (pd_up h (ad 10) (40, .inl (.int, 14, .inl (upd (fv 10) n (nI 0))))) := w
            obtain ⟨h27, u30⟩ : ∃ z, z = pd_up h (ad 10) (40, .inl (.int, 14, .inl (upd (fv 10) n (nI 0)))) := ⟨_, rfl⟩
            rw [← u30] at w
            have k28 : pd_kq (ad 10) h h27 := by rw [u30]; exact pd_up_kq
            have f29 : h27 (ad 10) = some (40, .inl (.int, 14, .inl (upd (fv 10) n (nI 0)))) := by rw [u30]; exact pd_up_s _ _ _
            have f31 := k28 _ _ (pd_ne hy0 ha10 (by simp)) hy0
            have f32 := k28 _ _ (pd_ne ha0 ha10 (by simp)) ha0
            have f33 := k28 _ _ (pd_ne ha1 ha10 (by simp)) ha1
            have f34 := k28 _ _ (pd_ne ha2 ha10 (by simp)) ha2
            have f35 := k28 _ _ (pd_ne ha6 ha10 (by simp)) ha6
            have f36 := k28 _ _ (pd_ne ha7 ha10 (by simp)) ha7
            have f37 := k28 _ _ (pd_ne ha8 ha10 (by simp)) ha8
            have f38 := k28 _ _ (pd_ne ha9 ha10 (by simp)) ha9
            have f39 := k28 _ _ (pd_ne ha11 ha10 (by simp)) ha11
            refine lv_aload_n hx hb d_p15m30_311 rfl (lv_at hl 5 rfl) ?_
            refine pd_get X w f31 rfl 8 (by decide) mT_1147 rfl rfl d_p15m30_312 ?_
            refine lv_iload hx hb d_p15m30_315 (lv_at hl 1 rfl) ?_
            refine lv_iload_n hx hb d_p15m30_317 rfl (lv_at hl 4 rfl) ?_
            refine pd_iast X w f37 (hMO.2.2 8 (by decide)).2 (by omega) (by omega) d_p15m30_318 (fun H locs w => ?_)
            have w : pd_w G s H locs (pd_up h27 (ad 8) (38, .inl (.int, 14, .inl (upd (fv 8) n (nI 0))))) := w
            obtain ⟨h40, u43⟩ : ∃ z, z = pd_up h27 (ad 8) (38, .inl (.int, 14, .inl (upd (fv 8) n (nI 0)))) := ⟨_, rfl⟩
            rw [← u43] at w
            have k41 : pd_kq (ad 8) h27 h40 := by rw [u43]; exact pd_up_kq
            have f42 : h40 (ad 8) = some (38, .inl (.int, 14, .inl (upd (fv 8) n (nI 0)))) := by rw [u43]; exact pd_up_s _ _ _
            have f44 := k41 _ _ (pd_ne f31 f37 (by simp)) f31
            have f45 := k41 _ _ (pd_ne f32 f37 (by simp)) f32
            have f46 := k41 _ _ (pd_ne f33 f37 (by simp)) f33
            have f47 := k41 _ _ (pd_ne f34 f37 (by simp)) f34
            have f48 := k41 _ _ (pd_ne f35 f37 (by simp)) f35
            have f49 := k41 _ _ (pd_ne f36 f37 (by simp)) f36
            have f50 := k41 _ _ (pd_ne f38 f37 (by simp)) f38
            have f51 := k41 _ _ (pd_ne f39 f37 (by simp)) f39
            have f52 := k41 _ _ (pd_ne f29 f37 (by simp)) f29
            refine lv_aload_n hx hb d_p15m30_319 rfl (lv_at hl 5 rfl) ?_
            refine pd_get X w f44 rfl 11 (by decide) mT_1150 rfl rfl d_p15m30_320 ?_
            refine lv_iload hx hb d_p15m30_323 (lv_at hl 1 rfl) ?_
            refine lv_iload_n hx hb d_p15m30_325 rfl (lv_at hl 7 rfl) ?_
            refine pd_zast (z := (nI 1)) X w f51 (hMO.2.2 11 (by decide)).2 (by omega) (by omega) (by decide) d_p15m30_326 (fun H locs w => ?_)
            have w : pd_w G s H locs (pd_up h40 (ad 11) (41, .inl (.boolean, 14, .inl (upd (fv 11) n (nI 1))))) := w
            obtain ⟨h53, u56⟩ : ∃ z, z = pd_up h40 (ad 11) (41, .inl (.boolean, 14, .inl (upd (fv 11) n (nI 1)))) := ⟨_, rfl⟩
            rw [← u56] at w
            have k54 : pd_kq (ad 11) h40 h53 := by rw [u56]; exact pd_up_kq
            have f55 : h53 (ad 11) = some (41, .inl (.boolean, 14, .inl (upd (fv 11) n (nI 1)))) := by rw [u56]; exact pd_up_s _ _ _
            have f57 := k54 _ _ (pd_ne f44 f51 (by simp)) f44
            have f58 := k54 _ _ (pd_ne f45 f51 (by simp)) f45
            have f59 := k54 _ _ (pd_ne f46 f51 (by simp)) f46
            have f60 := k54 _ _ (pd_ne f47 f51 (by simp)) f47
            have f61 := k54 _ _ (pd_ne f48 f51 (by simp)) f48
            have f62 := k54 _ _ (pd_ne f49 f51 (by simp)) f49
            have f63 := k54 _ _ (pd_ne f50 f51 (by simp)) f50
            have f64 := k54 _ _ (pd_ne f52 f51 (by simp)) f52
            have f65 := k54 _ _ (pd_ne f42 f51 (by simp)) f42
            refine lv_aload_n hx hb d_p15m30_327 rfl (lv_at hl 5 rfl) ?_
            refine pd_get X w f57 rfl 7 (by decide) mT_1146 rfl rfl d_p15m30_328 ?_
            refine lv_iload hx hb d_p15m30_331 (lv_at hl 1 rfl) ?_
            refine lv_aload_n hx hb d_p15m30_333 rfl (lv_at hl 5 rfl) ?_
            refine pd_get X w f57 rfl 2 (by decide) mT_1141 rfl rfl d_p15m30_334 ?_
            refine lv_iconst (v := nI 1) hx hb d_p15m30_337 (by decide) ?_
            refine pd_iald X w f60 (by omega) (by omega) d_p15m30_338 ?_
            refine pd_top (v' := .int (nI (eA 1))) (congrArg Value.int (hW.2 1 (by omega)).2.1) ?_
            refine lv_aload_n hx hb d_p15m30_339 rfl (lv_at hl 5 rfl) ?_
            refine pd_get X w f57 rfl 1 (by decide) mT_1140 rfl rfl d_p15m30_340 ?_
            refine lv_iconst (v := nI 1) hx hb d_p15m30_343 (by decide) ?_
            refine pd_iald X w f59 (by omega) (by omega) d_p15m30_344 ?_
            refine pd_top (v' := .int (nI (sA 1))) (congrArg Value.int (hW.2 1 (by omega)).1) ?_
            refine pd_isub hx hb d_p15m30_345 (by omega) ?_
            refine pd_iast X w f62 (hMO.2.2 7 (by decide)).2 (by omega) (by omega) d_p15m30_346 (fun H locs w => ?_)
            have w : pd_w G s H locs (pd_up h53 (ad 7) (37, .inl (.int, 14, .inl (upd (fv 7) n (nI ((eA 1) - (sA 1))))))) := w
            obtain ⟨h66, u69⟩ : ∃ z, z = pd_up h53 (ad 7) (37, .inl (.int, 14, .inl (upd (fv 7) n (nI ((eA 1) - (sA 1)))))) := ⟨_, rfl⟩
            rw [← u69] at w
            have k67 : pd_kq (ad 7) h53 h66 := by rw [u69]; exact pd_up_kq
            have f68 : h66 (ad 7) = some (37, .inl (.int, 14, .inl (upd (fv 7) n (nI ((eA 1) - (sA 1)))))) := by rw [u69]; exact pd_up_s _ _ _
            have f70 := k67 _ _ (pd_ne f57 f62 (by simp)) f57
            have f71 := k67 _ _ (pd_ne f58 f62 (by simp)) f58
            have f72 := k67 _ _ (pd_ne f59 f62 (by simp)) f59
            have f73 := k67 _ _ (pd_ne f60 f62 (by simp)) f60
            have f74 := k67 _ _ (pd_ne f61 f62 (by simp)) f61
            have f75 := k67 _ _ (pd_ne f63 f62 (by simp)) f63
            have f76 := k67 _ _ (pd_ne f64 f62 (by simp)) f64
            have f77 := k67 _ _ (pd_ne f65 f62 (by simp)) f65
            have f78 := k67 _ _ (pd_ne f55 f62 (by simp)) f55
            refine lv_iconst (v := nI 0) hx hb d_p15m30_347 (by decide) ?_
            refine lv_istore (lv' := [(7, .int (nI 0)), (6, .int (nI n)), (5, .int (nI 0)), (4, .int (nI 3)), (3, .int (nI 0)), (0, .ref y), (1, .int (nI 2)), (2, .int (nI 1))]) hx hb d_p15m30_348 hl (by decide) rfl (fun ls hl => ?_)
            have mo79 : pd_MO G h66 y ad (pd_fu (pd_fu (pd_fu (pd_fu fv 7 (upd (fv 7) n (nI ((eA 1) - (sA 1))))) 8 (upd (fv 8) n (nI 0))) 10 (upd (fv 10) n (nI 0))) 11 (upd (fv 11) n (nI 1))) iv tl := pd_MO.of (ts := [40, 38, 41, 37]) hMO (pd_kx.tr (pd_kx.mono (us := [40, 38, 41, 37]) (pd_kx.tr (pd_kx.mono (us := [40, 38, 41]) (pd_kx.tr (pd_kx.mono (us := [40, 38]) (pd_kq.kx (k28) ha10) (by simp)) (pd_kx.mono (us := [40, 38]) (pd_kq.kx (k41) f37) (by simp))) (by simp)) (pd_kx.mono (us := [40, 38, 41]) (pd_kq.kx (k54) f51) (by simp))) (by simp)) (pd_kx.mono (us := [40, 38, 41, 37]) (pd_kq.kx (k67) f62) (by simp))) f70 (fun j hj => if e7 : j = 7 then by subst e7; exact Or.inl f68 else if e8 : j = 8 then by subst e8; exact Or.inl f77 else if e10 : j = 10 then by subst e10; exact Or.inl f76 else if e11 : j = 11 then by subst e11; exact Or.inl f78 else Or.inr ⟨fun z => by first | (simp at z; done) | (simp at z; omega), by rw [pd_fu_n e11, pd_fu_n e10, pd_fu_n e8, pd_fu_n e7]⟩)
            exact lp_Mod_declareI_350 l G h hMO hL hC hW hcut hwd hgn X hmn (100 + 1) 0 0 0 3 none none (fv 6) (fv 9) h66 (pd_kx.mono (us := [20, 36, 37, 38, 39, 40, 41]) (pd_kx.tr (pd_kx.mono (us := [40, 38, 41, 37]) (pd_kx.tr (pd_kx.mono (us := [40, 38, 41]) (pd_kx.tr (pd_kx.mono (us := [40, 38]) (pd_kq.kx (k28) ha10) (by simp)) (pd_kx.mono (us := [40, 38]) (pd_kq.kx (k41) f37) (by simp))) (by simp)) (pd_kx.mono (us := [40, 38, 41]) (pd_kq.kx (k54) f51) (by simp))) (by simp)) (pd_kx.mono (us := [40, 38, 41, 37]) (pd_kq.kx (k67) f62) (by simp))) (by simp)) ((pd_MO.ext (fv2 := pd_fu (pd_fu (pd_fu (pd_fu (pd_fu (pd_fu fv 6 (fv 6)) 7 (upd (fv 7) n (nI ((eA 1) - (sA 1))))) 8 (upd (fv 8) n (nI 0))) 9 (fv 9)) 10 (upd (fv 10) n (nI 0))) 11 (upd (fv 11) n (nI 1))) (iv2 := iv) mo79 (fun j9 hj9 => by by_cases e906 : j9 = 6; subst e906; rfl; by_cases e907 : j9 = 7; subst e907; rfl; by_cases e908 : j9 = 8; subst e908; rfl; by_cases e909 : j9 = 9; subst e909; rfl; by_cases e910 : j9 = 10; subst e910; rfl; by_cases e911 : j9 = 11; subst e911; rfl; simp only [pd_fu, if_neg e906, if_neg e907, if_neg e908, if_neg e909, if_neg e910, if_neg e911]) rfl)) (hcd) (hdc) (rfl) (fun t ht => by exact absurd ht (by simp)) (fun x hx => by rfl) (by simp) (by omega) (by omega) (fun t ht => absurd ht (Nat.not_lt_zero t)) (fun _ _ => rfl) (by omega) _ _ w ls (lv_sub hl [0, 1, 2, 3, 4, 5, 6, 7] rfl)
          · -- not taken: 256
            refine lv_bipush (v := -5) hx hb d_p15m30_256 (by decide) ?_
            have hg : gr_dc n R cs true 3 = (-5, n, R) := by have z9 := gr_dc_r (n := n) (R := R) (cs := cs) (bi := true) (ff := 3) (i := 0) (by rw [hup, hfa, hfb, gr_hd_s, if_neg hnl, if_neg (fun y => y hq1), if_neg hn4]); rw [z9, gr_cadd_n (by omega)]
            exact pd_iret (v := (-5)) X w (Or.inr ⟨hcd, by rw [hg], pd_kx.rf, fv, iv, hMO, ⟨fun _ _ => rfl, fun _ _ => rfl⟩, (by rw [hg]; exact hC)⟩) (by decide) (by decide) d_p15m30_258
        · -- not taken: 185
          refine lv_bipush (v := -4) hx hb d_p15m30_185 (by decide) ?_
          have hg : gr_dc n R cs true 3 = (-4, n, R) := gr_dc_l (by rw [hup, hfa, hfb, gr_hd_s, if_neg hnl, if_neg (fun y => y hq1), if_pos (by simp [gr_pc, q22])])
          exact pd_iret (v := (-4)) X w (Or.inr ⟨hcd, by rw [hg], pd_kx.rf, fv, iv, hMO, ⟨fun _ _ => rfl, fun _ _ => rfl⟩, (by rw [hg]; exact hC)⟩) (by decide) (by decide) d_p15m30_187
      · -- some: 127
        rw [q17] at e16
        have j18lt := gr_fi_lt e16.symm
        have hq1 : gr_find R n (gr_w cs 1) = some j18 := by rw [← hwk 1 (by omega)]; exact e16.symm
        refine lv_bipush (v := -3) hx hb d_p15m30_127 (by decide) ?_
        have hg : gr_dc n R cs true 3 = (-3, n, R) := gr_dc_l (by rw [hup, hfa, hfb, gr_hd_s, if_neg hnl, if_pos (by rw [hq1]; simp)])
        exact pd_iret (v := (-3)) X w (Or.inr ⟨hcd, by rw [hg], pd_kx.rf, fv, iv, hMO, ⟨fun _ _ => rfl, fun _ _ => rfl⟩, (by rw [hg]; exact hC)⟩) (by decide) (by decide) d_p15m30_129
  · -- nw = 4
    have hl : lv_has ls 8 [(0, .ref y), (1, .int (nI 4)), (2, .int (nI 1))] := hl
    refine lv_iload_n hx hb d_p15m30_0 rfl (lv_at hl 1 rfl) ?_
    refine lv_iconst (v := nI 2) hx hb d_p15m30_1 (by decide) ?_
    refine pd_jlt (tgt := 70) hx hb d_p15m30_2 (by decide) (by decide) (by decide) (fun q => absurd q (by decide)) (fun _ => ?_)
    refine lv_iload_n hx hb d_p15m30_5 rfl (lv_at hl 1 rfl) ?_
    refine lv_iconst (v := nI 3) hx hb d_p15m30_6 (by decide) ?_
    refine pd_jeq (tgt := 70) hx hb d_p15m30_7 (by decide) (by decide) (by decide) (fun q => absurd q (by decide)) (fun _ => ?_)
    refine lv_iload_n hx hb d_p15m30_10 rfl (lv_at hl 1 rfl) ?_
    refine lv_iload_n hx hb d_p15m30_11 rfl (lv_at hl 2 rfl) ?_
    refine pd_zeq (tgt := 19) hx hb d_p15m30_12 (by decide) (by decide) (fun q => absurd q (by decide)) (fun _ => ?_)
    refine lv_iconst (v := nI 5) hx hb d_p15m30_15 (by decide) ?_
    refine lv_goto (tgt := 21) hx hb d_p15m30_16 (by decide) ?_
    refine pd_jgt (tgt := 70) hx hb d_p15m30_21 (by decide) (by decide) (by decide) (fun q => absurd q (by decide)) (fun _ => ?_)
    refine lv_aload_n hx hb d_p15m30_24 rfl (lv_at hl 0 rfl) ?_
    refine lv_iconst (v := nI 1) hx hb d_p15m30_25 (by decide) ?_
    refine pd_cV (a := y) (As := [.int (nI 1)]) (rest := []) X w hy0 rfl (c_Mod_isName l G h (cs := cs) (nw := 4) (sA := sA) (eA := eA) (ad := ad) (fv := fv) (iv := iv) (tl := tl) hMO hL hW (by omega)) ok_Mod_isName ⟨mT_1307, sT_17⟩ mT_1305 ⟨by decide, by decide⟩ rfl hl.1 rfl (Nat.le_of_ble_eq_true rfl) d_p15m30_26 ⟨by decide, by decide⟩ (fun r84 h85 H locs hp86 w => ?_)
    refine W.widen (k := 0) (n := 0) (by decide) (by decide) ?_
    obtain ⟨e87, rfl⟩ := hp86
    refine pd_beq (tgt := 70) hx hb d_p15m30_29 (by decide) (fun q88 => ?_) (fun q88 => ?_)
    · -- taken: 70
      refine lv_iconst (v := -1) hx hb d_p15m30_70 (by decide) ?_
      exact pd_iret (v := (-1)) X w (Or.inl ⟨(fun z => of_decide_eq_false (e87.symm.trans q88) z.2.1), rfl, rfl⟩) (by decide) (by decide) d_p15m30_71
    · -- not taken: 32
      have hnm1 : gm_name cs (sA 1) (eA 1) = eA 1 := of_decide_eq_true (e87.symm.trans q88)
      refine lv_iload_n hx hb d_p15m30_32 rfl (lv_at hl 1 rfl) ?_
      refine lv_iconst (v := nI 3) hx hb d_p15m30_33 (by decide) ?_
      refine pd_jle (tgt := 72) hx hb d_p15m30_34 (by decide) (by decide) (by decide) (fun q => absurd q (by decide)) (fun _ => ?_)
      have hwl2 := (hW.2 2 (by omega)).2.2
      refine lv_aload_n hx hb d_p15m30_37 rfl (lv_at hl 0 rfl) ?_
      refine pd_get X w hy0 rfl 2 (by decide) mT_1141 rfl rfl d_p15m30_38 ?_
      refine lv_iconst (v := nI 2) hx hb d_p15m30_41 (by decide) ?_
      refine pd_iald X w ha2 (by omega) (by omega) d_p15m30_42 ?_
      refine pd_top (v' := .int (nI (eA 2))) (congrArg Value.int (hW.2 2 (by omega)).2.1) ?_
      refine lv_aload_n hx hb d_p15m30_43 rfl (lv_at hl 0 rfl) ?_
      refine pd_get X w hy0 rfl 1 (by decide) mT_1140 rfl rfl d_p15m30_44 ?_
      refine lv_iconst (v := nI 2) hx hb d_p15m30_47 (by decide) ?_
      refine pd_iald X w ha1 (by omega) (by omega) d_p15m30_48 ?_
      refine pd_top (v' := .int (nI (sA 2))) (congrArg Value.int (hW.2 2 (by omega)).1) ?_
      refine pd_isub hx hb d_p15m30_49 (by omega) ?_
      refine lv_iconst (v := nI 1) hx hb d_p15m30_50 (by decide) ?_
      refine pd_jne (tgt := 70) hx hb d_p15m30_51 (by decide) (by omega) (by omega) (fun q90 => ?_) (fun q90 => ?_)
      · -- taken: 70
        refine lv_iconst (v := -1) hx hb d_p15m30_70 (by decide) ?_
        exact pd_iret (v := (-1)) X w (Or.inl ⟨(fun z => by have z1 := z.2.2.1 (by omega); omega), rfl, rfl⟩) (by decide) (by decide) d_p15m30_71
      · -- not taken: 54
        refine lv_aload_n hx hb d_p15m30_54 rfl (lv_at hl 0 rfl) ?_
        refine pd_get X w hy0 rfl 0 (by decide) mT_1139 rfl rfl d_p15m30_55 ?_
        refine lv_aload_n hx hb d_p15m30_58 rfl (lv_at hl 0 rfl) ?_
        refine pd_get X w hy0 rfl 1 (by decide) mT_1140 rfl rfl d_p15m30_59 ?_
        refine lv_iconst (v := nI 2) hx hb d_p15m30_62 (by decide) ?_
        refine pd_iald X w ha1 (by omega) (by omega) d_p15m30_63 ?_
        refine pd_top (v' := .int (nI (sA 2))) (congrArg Value.int (hW.2 2 (by omega)).1) ?_
        refine pd_iald X w ha0 (by omega) (by omega) d_p15m30_64 ?_
        refine pd_top (v' := .int (nI (cs.getD (sA 2) 0))) (congrArg Value.int (hln _ (by omega))) ?_
        have := tx_lt hlc (sA 2)
        refine lv_bipush (v := nI 58) hx hb d_p15m30_65 (by decide) ?_
        refine pd_jeq (tgt := 72) hx hb d_p15m30_67 (by decide) (by omega) (by omega) (fun q91 => ?_) (fun q91 => ?_)
        · -- taken: 72
          refine lv_iconst (v := nI 3) hx hb d_p15m30_72 (by decide) ?_
          refine lv_istore_n (lv' := [(3, .int (nI 3)), (0, .ref y), (1, .int (nI 4)), (2, .int (nI 1))]) hx hb d_p15m30_73 rfl hl (by decide) rfl (fun ls hl => ?_)
          refine lv_iload_n hx hb d_p15m30_74 rfl (lv_at hl 0 rfl) ?_
          refine lv_iload_n hx hb d_p15m30_75 rfl (lv_at hl 2 rfl) ?_
          refine pd_jge (tgt := 95) hx hb d_p15m30_76 (by decide) (by decide) (by decide) (fun q => absurd q (by decide)) (fun _ => ?_)
          refine lv_aload_n hx hb d_p15m30_79 rfl (lv_at hl 1 rfl) ?_
          refine lv_iload_n hx hb d_p15m30_80 rfl (lv_at hl 0 rfl) ?_
          refine pd_cV (a := y) (As := [.int (nI 3)]) (rest := []) X w hy0 rfl (c_Mod_isName l G h (cs := cs) (nw := 4) (sA := sA) (eA := eA) (ad := ad) (fv := fv) (iv := iv) (tl := tl) hMO hL hW (by omega)) ok_Mod_isName ⟨mT_1307, sT_17⟩ mT_1305 ⟨by decide, by decide⟩ rfl hl.1 rfl (Nat.le_of_ble_eq_true rfl) d_p15m30_81 ⟨by decide, by decide⟩ (fun r93 h94 H locs hp95 w => ?_)
          refine W.widen (k := 0) (n := 0) (by decide) (by decide) ?_
          obtain ⟨e96, rfl⟩ := hp95
          refine pd_bne (tgt := 89) hx hb d_p15m30_84 (by decide) (fun q97 => ?_) (fun q97 => ?_)
          · -- taken: 89
            have hnm3 : gm_name cs (sA 3) (eA 3) = eA 3 := of_decide_eq_true (e96.symm.trans q97)
            refine pd_iinc (k := 0) (d := 1) (lv' := [(3, .int (nI 4)), (0, .ref y), (1, .int (nI 4)), (2, .int (nI 1))]) hx hb d_p15m30_89 (by decide) hl rfl (by decide) rfl (fun ls hl => ?_)
            refine lv_goto (tgt := 74) hx hb d_p15m30_92 (by decide) ?_
            refine lv_iload_n hx hb d_p15m30_74 rfl (lv_at hl 0 rfl) ?_
            refine lv_iload_n hx hb d_p15m30_75 rfl (lv_at hl 2 rfl) ?_
            refine pd_jge (tgt := 95) hx hb d_p15m30_76 (by decide) (by decide) (by decide) (fun _ => ?_) (fun q => absurd q (by decide))
            have hcd : (2 ≤ 4 ∧ ¬ 4 = 3 ∧ 4 ≤ 5) ∧ gm_name cs (sA 1) (eA 1) = eA 1 ∧ (3 < 4 → eA 2 - sA 2 = 1 ∧ cs.getD (sA 2) 0 = 58) ∧ ∀ t, 3 ≤ t → t < 4 → gm_name cs (sA t) (eA t) = eA t := ⟨⟨by omega, by omega, by omega⟩, hnm1, fun _ => ⟨by omega, by omega⟩, fun t h3 h5 => by rcases (show t = 3 by omega) with rfl <;> assumption⟩
            have hcu : (gr_cut cs).1 = 4 := hcut (by omega)
            have hwk := hwd (by omega)
            refine lv_iconst (v := nI 3) hx hb d_p15m30_95 (by decide) ?_
            refine lv_istore_n (lv' := [(3, .int (nI 3)), (0, .ref y), (1, .int (nI 4)), (2, .int (nI 1))]) hx hb d_p15m30_96 rfl hl (by decide) rfl (fun ls hl => ?_)
            refine lv_iload_n hx hb d_p15m30_97 rfl (lv_at hl 0 rfl) ?_
            refine lv_iload_n hx hb d_p15m30_98 rfl (lv_at hl 2 rfl) ?_
            refine pd_jge (tgt := 119) hx hb d_p15m30_99 (by decide) (by decide) (by decide) (fun q => absurd q (by decide)) (fun _ => ?_)
            refine lv_aload_n hx hb d_p15m30_102 rfl (lv_at hl 1 rfl) ?_
            refine lv_iload_n hx hb d_p15m30_103 rfl (lv_at hl 0 rfl) ?_
            refine pd_cV (a := y) (As := [.int (nI 3)]) (rest := []) X w hy0 rfl (c_Mod_classOf l G h (cs := cs) (nw := 4) (sA := sA) (eA := eA) (n := n) (R := R) (ad := ad) (fv := fv) (iv := iv) (tl := tl) hMO hL hW (by omega) hC) ok_Mod_classOf ⟨mT_1322, sT_20⟩ mT_1320 ⟨by decide, by decide⟩ rfl hl.1 rfl (Nat.le_of_ble_eq_true rfl) d_p15m30_104 ⟨by decide, by decide⟩ (fun r100 h101 H locs hp102 w => ?_)
            refine W.widen (k := 0) (n := 0) (by decide) (by decide) ?_
            obtain ⟨e103, rfl⟩ := hp102
            refine pd_mge (tgt := 113) hx hb d_p15m30_107 (by decide) (fun x hx => by have z := gr_fi_lt (e103.symm.trans hx); omega) (fun q104 => ?_) (fun j105 q104 => ?_)
            · -- none: 110
              rw [q104] at e103
              have hq3 : gr_find R n (gr_w cs 3) = none := by rw [← hwk 3 (by omega)]; exact e103.symm
              refine lv_bipush (v := -2) hx hb d_p15m30_110 (by decide) ?_
              have hup : gr_up n R cs true = some 0 := by unfold gr_up; rw [if_neg (fun z => by have z1 := z.1; cases z1)]
              have hg : gr_dc n R cs true 3 = (-2, n, R) := gr_dc_l (by rw [hup, gr_hd_s, if_pos (Or.inl ⟨hq3, by omega⟩)])
              exact pd_iret (v := (-2)) X w (Or.inr ⟨hcd, by rw [hg], pd_kx.rf, fv, iv, hMO, ⟨fun _ _ => rfl, fun _ _ => rfl⟩, (by rw [hg]; exact hC)⟩) (by decide) (by decide) d_p15m30_112
            · -- some: 113
              rw [q104] at e103
              have j105lt := gr_fi_lt e103.symm
              have hq3 : gr_find R n (gr_w cs 3) = some j105 := by rw [← hwk 3 (by omega)]; exact e103.symm
              refine pd_iinc (k := 0) (d := 1) (lv' := [(3, .int (nI 4)), (0, .ref y), (1, .int (nI 4)), (2, .int (nI 1))]) hx hb d_p15m30_113 (by decide) hl rfl (by decide) rfl (fun ls hl => ?_)
              refine lv_goto (tgt := 97) hx hb d_p15m30_116 (by decide) ?_
              refine lv_iload_n hx hb d_p15m30_97 rfl (lv_at hl 0 rfl) ?_
              refine lv_iload_n hx hb d_p15m30_98 rfl (lv_at hl 2 rfl) ?_
              refine pd_jge (tgt := 119) hx hb d_p15m30_99 (by decide) (by decide) (by decide) (fun _ => ?_) (fun q => absurd q (by decide))
              have hup : gr_up n R cs true = some 0 := by unfold gr_up; rw [if_neg (fun z => by have z1 := z.1; cases z1)]
              have hfa : gr_find R n (gr_w cs 3) = some j105 := hq3
              have hfb : gr_find R n (gr_w cs 4) = none := gm_find_w hC (by omega)
              have hnl : ¬ ((some j105 = none ∧ 3 < (gr_cut cs).1) ∨ ((none : Option Nat) = none ∧ 4 < (gr_cut cs).1)) := by rw [hcu]; simp
              refine lv_aload_n hx hb d_p15m30_119 rfl (lv_at hl 1 rfl) ?_
              refine lv_iconst (v := nI 1) hx hb d_p15m30_120 (by decide) ?_
              refine pd_cV (a := y) (As := [.int (nI 1)]) (rest := []) X w hy0 rfl (c_Mod_classOf l G h (cs := cs) (nw := 4) (sA := sA) (eA := eA) (n := n) (R := R) (ad := ad) (fv := fv) (iv := iv) (tl := tl) hMO hL hW (by omega) hC) ok_Mod_classOf ⟨mT_1322, sT_20⟩ mT_1320 ⟨by decide, by decide⟩ rfl hl.1 rfl (Nat.le_of_ble_eq_true rfl) d_p15m30_121 ⟨by decide, by decide⟩ (fun r107 h108 H locs hp109 w => ?_)
              refine W.widen (k := 0) (n := 0) (by decide) (by decide) ?_
              obtain ⟨e110, rfl⟩ := hp109
              refine pd_mlt (tgt := 130) hx hb d_p15m30_124 (by decide) (fun x hx => by have z := gr_fi_lt (e110.symm.trans hx); omega) (fun q111 => ?_) (fun j112 q111 => ?_)
              · -- none: 130
                rw [q111] at e110
                have hq1 : gr_find R n (gr_w cs 1) = none := by rw [← hwk 1 (by omega)]; exact e110.symm
                refine lv_iload_n hx hb d_p15m30_130 rfl (lv_at hl 3 rfl) ?_
                refine pd_zne (tgt := 147) hx hb d_p15m30_131 (by decide) (by decide) (fun _ => ?_) (fun q => absurd q (by decide))
                refine lv_iconst (v := nI 0) hx hb d_p15m30_147 (by decide) ?_
                refine lv_istore_n (lv' := [(3, .int (nI 0)), (0, .ref y), (1, .int (nI 4)), (2, .int (nI 1))]) hx hb d_p15m30_148 rfl hl (by decide) rfl (fun ls hl => ?_)
                refine lv_iload_n hx hb d_p15m30_149 rfl (lv_at hl 3 rfl) ?_
                refine pd_zeq (tgt := 157) hx hb d_p15m30_150 (by decide) (by decide) (fun q => absurd q (by decide)) (fun _ => ?_)
                refine lv_iconst (v := nI 3) hx hb d_p15m30_153 (by decide) ?_
                refine lv_goto (tgt := 158) hx hb d_p15m30_154 (by decide) ?_
                refine lv_istore (lv' := [(4, .int (nI 3)), (3, .int (nI 0)), (0, .ref y), (1, .int (nI 4)), (2, .int (nI 1))]) hx hb d_p15m30_158 hl (by decide) rfl (fun ls hl => ?_)
                refine lv_iload_n hx hb d_p15m30_160 rfl (lv_at hl 3 rfl) ?_
                refine lv_iload hx hb d_p15m30_161 (lv_at hl 0 rfl) ?_
                refine pd_jle (tgt := 173) hx hb d_p15m30_163 (by decide) (by decide) (by decide) (fun q => absurd q (by decide)) (fun _ => ?_)
                refine lv_iload_n hx hb d_p15m30_166 rfl (lv_at hl 3 rfl) ?_
                refine lv_iload hx hb d_p15m30_167 (lv_at hl 0 rfl) ?_
                refine pd_isub hx hb d_p15m30_169 (by omega) ?_
                refine lv_goto (tgt := 174) hx hb d_p15m30_170 (by decide) ?_
                refine lv_istore (lv' := [(5, .int (nI 1)), (4, .int (nI 3)), (3, .int (nI 0)), (0, .ref y), (1, .int (nI 4)), (2, .int (nI 1))]) hx hb d_p15m30_174 hl (by decide) rfl (fun ls hl => ?_)
                refine lv_aload_n hx hb d_p15m30_176 rfl (lv_at hl 3 rfl) ?_
                refine pd_get X w hy0 rfl 11 (by decide) mT_1150 rfl rfl d_p15m30_177 ?_
                refine lv_iload_n hx hb d_p15m30_180 rfl (lv_at hl 2 rfl) ?_
                refine pd_zald X w ha11 (by omega) (by omega) d_p15m30_181 ?_
                refine pd_top (v' := .int (pd_b ((R 0).2.1))) (congrArg Value.int (hCc 0 (by omega)).2.2.2.2.2.1) ?_
                refine pd_beq (tgt := 188) hx hb d_p15m30_182 (by decide) (fun q116 => ?_) (fun q116 => ?_)
                · -- taken: 188
                  refine lv_iload hx hb d_p15m30_188 (lv_at hl 1 rfl) ?_
                  refine lv_istore (lv' := [(6, .int (nI 3)), (5, .int (nI 1)), (4, .int (nI 3)), (3, .int (nI 0)), (0, .ref y), (1, .int (nI 4)), (2, .int (nI 1))]) hx hb d_p15m30_190 hl (by decide) rfl (fun ls hl => ?_)
                  refine lv_iload hx hb d_p15m30_192 (lv_at hl 0 rfl) ?_
                  refine lv_iload_n hx hb d_p15m30_194 rfl (lv_at hl 5 rfl) ?_
                  refine pd_jge (tgt := 221) hx hb d_p15m30_195 (by decide) (by decide) (by decide) (fun q => absurd q (by decide)) (fun _ => ?_)
                  refine lv_aload_n hx hb d_p15m30_198 rfl (lv_at hl 4 rfl) ?_
                  refine pd_get X w hy0 rfl 11 (by decide) mT_1150 rfl rfl d_p15m30_199 ?_
                  refine lv_aload_n hx hb d_p15m30_202 rfl (lv_at hl 4 rfl) ?_
                  refine lv_iload hx hb d_p15m30_203 (lv_at hl 0 rfl) ?_
                  refine pd_cV (a := y) (As := [.int (nI 3)]) (rest := [.ref (ad 11)]) X w hy0 rfl (c_Mod_classOf l G h (cs := cs) (nw := 4) (sA := sA) (eA := eA) (n := n) (R := R) (ad := ad) (fv := fv) (iv := iv) (tl := tl) hMO hL hW (by omega) hC) ok_Mod_classOf ⟨mT_1322, sT_20⟩ mT_1320 ⟨by decide, by decide⟩ rfl hl.1 rfl (Nat.le_of_ble_eq_true rfl) d_p15m30_205 ⟨by decide, by decide⟩ (fun r118 h119 H locs hp120 w => ?_)
                  refine W.widen (k := 0) (n := 0) (by decide) (by decide) ?_
                  obtain ⟨e121, rfl⟩ := hp120
                  refine pd_top (v' := .int (nI j105)) (congrArg Value.int (by rw [e121, hwk 3 (by omega), hq3]; rfl)) ?_
                  refine pd_zald X w ha11 (by omega) (by omega) d_p15m30_208 ?_
                  refine pd_top (v' := .int (pd_b ((R j105).2.1))) (congrArg Value.int (hCc j105 (by omega)).2.2.2.2.2.1) ?_
                  refine pd_bne (tgt := 215) hx hb d_p15m30_209 (by decide) (fun q122 => ?_) (fun q122 => ?_)
                  · -- taken: 215
                    refine pd_iinc (k := 0) (d := 1) (lv' := [(6, .int (nI 4)), (5, .int (nI 1)), (4, .int (nI 3)), (3, .int (nI 0)), (0, .ref y), (1, .int (nI 4)), (2, .int (nI 1))]) hx hb d_p15m30_215 (by decide) hl rfl (by decide) rfl (fun ls hl => ?_)
                    refine lv_goto (tgt := 192) hx hb d_p15m30_218 (by decide) ?_
                    refine lv_iload hx hb d_p15m30_192 (lv_at hl 0 rfl) ?_
                    refine lv_iload_n hx hb d_p15m30_194 rfl (lv_at hl 5 rfl) ?_
                    refine pd_jge (tgt := 221) hx hb d_p15m30_195 (by decide) (by decide) (by decide) (fun _ => ?_) (fun q => absurd q (by decide))
                    refine lv_iload hx hb d_p15m30_221 (lv_at hl 1 rfl) ?_
                    refine lv_iconst (v := nI 2) hx hb d_p15m30_223 (by decide) ?_
                    refine pd_jne (tgt := 247) hx hb d_p15m30_224 (by decide) (by decide) (by decide) (fun _ => ?_) (fun q => absurd q (by decide))
                    have hn4 : ¬ ((R 0).2.1 = true ∨ gr_pc R (some j105) = true ∨ gr_pc R none = true ∨ (¬ some j105 = none ∧ some j105 = none)) := by simp [gr_pc, q116, q122]
                    refine lv_aload_n hx hb d_p15m30_247 rfl (lv_at hl 4 rfl) ?_
                    refine pd_get X w hy0 rfl 12 (by decide) mT_1151 rfl rfl d_p15m30_248 ?_
                    refine pd_top (v' := .int (nI n)) (congrArg Value.int hiv12) ?_
                    refine lv_bipush (v := nI 14) hx hb d_p15m30_251 (by decide) ?_
                    refine pd_jne (tgt := 259) hx hb d_p15m30_253 (by decide) (by omega) (by omega) (fun q125 => ?_) (fun q125 => ?_)
                    · -- taken: 259
                      refine lv_aload_n hx hb d_p15m30_259 rfl (lv_at hl 4 rfl) ?_
                      refine pd_get X w hy0 rfl 12 (by decide) mT_1151 rfl rfl d_p15m30_260 ?_
                      refine pd_top (v' := .int (nI n)) (congrArg Value.int hiv12) ?_
                      refine lv_istore (lv' := [(6, .int (nI n)), (5, .int (nI 1)), (4, .int (nI 3)), (3, .int (nI 0)), (0, .ref y), (1, .int (nI 4)), (2, .int (nI 1))]) hx hb d_p15m30_263 hl (by decide) rfl (fun ls hl => ?_)
                      refine lv_iconst (v := nI 0) hx hb d_p15m30_265 (by decide) ?_
                      refine lv_istore (lv' := [(7, .int (nI 0)), (6, .int (nI n)), (5, .int (nI 1)), (4, .int (nI 3)), (3, .int (nI 0)), (0, .ref y), (1, .int (nI 4)), (2, .int (nI 1))]) hx hb d_p15m30_266 hl (by decide) rfl (fun ls hl => ?_)
                      refine lv_iload hx hb d_p15m30_268 (lv_at hl 0 rfl) ?_
                      refine lv_iload hx hb d_p15m30_270 (lv_at hl 2 rfl) ?_
                      refine pd_jge (tgt := 302) hx hb d_p15m30_272 (by decide) (by decide) (by decide) (fun q => absurd q (by decide)) (fun _ => ?_)
                      refine lv_aload_n hx hb d_p15m30_275 rfl (lv_at hl 5 rfl) ?_
                      refine pd_get X w hy0 rfl 9 (by decide) mT_1148 rfl rfl d_p15m30_276 ?_
                      refine lv_iconst (v := nI 2) hx hb d_p15m30_279 (by decide) ?_
                      refine lv_iload hx hb d_p15m30_280 (lv_at hl 1 rfl) ?_
                      refine pd_imul hx hb d_p15m30_282 ?_
                      refine lv_iload hx hb d_p15m30_283 (lv_at hl 0 rfl) ?_
                      refine pd_iadd hx hb d_p15m30_285 ?_
                      refine lv_aload_n hx hb d_p15m30_286 rfl (lv_at hl 5 rfl) ?_
                      refine lv_iload hx hb d_p15m30_287 (lv_at hl 3 rfl) ?_
                      refine lv_iload hx hb d_p15m30_289 (lv_at hl 0 rfl) ?_
                      refine pd_iadd hx hb d_p15m30_291 ?_
                      refine pd_cV (a := y) (As := [.int (nI 3)]) (rest := [.int (nI ((2 * n) + 0)), .ref (ad 9)]) X w hy0 rfl (c_Mod_classOf l G h (cs := cs) (nw := 4) (sA := sA) (eA := eA) (n := n) (R := R) (ad := ad) (fv := fv) (iv := iv) (tl := tl) hMO hL hW (by omega) hC) ok_Mod_classOf ⟨mT_1322, sT_20⟩ mT_1320 ⟨by decide, by decide⟩ rfl hl.1 rfl (Nat.le_of_ble_eq_true rfl) d_p15m30_292 ⟨by decide, by decide⟩ (fun r127 h128 H locs hp129 w => ?_)
                      refine W.widen (k := 0) (n := 0) (by decide) (by decide) ?_
                      obtain ⟨e130, rfl⟩ := hp129
                      refine pd_top (v' := .int (nI j105)) (congrArg Value.int (by rw [e130, hwk 3 (by omega), hq3]; rfl)) ?_
                      refine pd_iast X w ha9 (hMO.2.2 9 (by decide)).2 (by omega) (by omega) d_p15m30_295 (fun H locs w => ?_)
                      have w : pd_w G s H locs (pd_up h (ad 9) (39, .inl (.int, 28, .inl (upd (fv 9) ((2 * n) + 0) (nI j105))))) := w
                      obtain ⟨h131, u134⟩ : ∃ z, z = pd_up h (ad 9) (39, .inl (.int, 28, .inl (upd (fv 9) ((2 * n) + 0) (nI j105)))) := ⟨_, rfl⟩
                      rw [← u134] at w
                      have k132 : pd_kq (ad 9) h h131 := by rw [u134]; exact pd_up_kq
                      have f133 : h131 (ad 9) = some (39, .inl (.int, 28, .inl (upd (fv 9) ((2 * n) + 0) (nI j105)))) := by rw [u134]; exact pd_up_s _ _ _
                      have f135 := k132 _ _ (pd_ne hy0 ha9 (by simp)) hy0
                      have f136 := k132 _ _ (pd_ne ha0 ha9 (by simp)) ha0
                      have f137 := k132 _ _ (pd_ne ha1 ha9 (by simp)) ha1
                      have f138 := k132 _ _ (pd_ne ha2 ha9 (by simp)) ha2
                      have f139 := k132 _ _ (pd_ne ha6 ha9 (by simp)) ha6
                      have f140 := k132 _ _ (pd_ne ha7 ha9 (by simp)) ha7
                      have f141 := k132 _ _ (pd_ne ha8 ha9 (by simp)) ha8
                      have f142 := k132 _ _ (pd_ne ha10 ha9 (by simp)) ha10
                      have f143 := k132 _ _ (pd_ne ha11 ha9 (by simp)) ha11
                      refine pd_iinc (k := 0) (d := 1) (lv' := [(7, .int (nI 1)), (6, .int (nI n)), (5, .int (nI 1)), (4, .int (nI 3)), (3, .int (nI 0)), (0, .ref y), (1, .int (nI 4)), (2, .int (nI 1))]) hx hb d_p15m30_296 (by decide) hl rfl (by decide) rfl (fun ls hl => ?_)
                      refine lv_goto (tgt := 268) hx hb d_p15m30_299 (by decide) ?_
                      refine lv_iload hx hb d_p15m30_268 (lv_at hl 0 rfl) ?_
                      refine lv_iload hx hb d_p15m30_270 (lv_at hl 2 rfl) ?_
                      refine pd_jge (tgt := 302) hx hb d_p15m30_272 (by decide) (by decide) (by decide) (fun _ => ?_) (fun q => absurd q (by decide))
                      have hwl1 := (hW.2 1 (by omega)).2.2
                      have hdc : gr_dc n R cs true 3 = gr_cadd n R (gr_row R n (gr_w cs 1) true (some 0) (some j105) none) := by have z9 := gr_dc_r (n := n) (R := R) (cs := cs) (bi := true) (ff := 3) (i := 0) (by rw [hup, hfa, hfb, gr_hd_s, if_neg hnl, if_neg (fun y => y hq1), if_neg hn4]); rw [hfa, hfb] at z9; exact z9
                      refine lv_aload_n hx hb d_p15m30_302 rfl (lv_at hl 5 rfl) ?_
                      refine pd_get X w f135 rfl 10 (by decide) mT_1149 rfl rfl d_p15m30_303 ?_
                      refine lv_iload hx hb d_p15m30_306 (lv_at hl 1 rfl) ?_
                      refine lv_iload hx hb d_p15m30_308 (lv_at hl 2 rfl) ?_
                      refine pd_iast X w f142 (hMO.2.2 10 (by decide)).2 (by omega) (by omega) d_p15m30_310 (fun H locs w => ?_)
                      have w : pd_w G s H locs (pd_up h131 (ad 10) (40, .inl (.int, 14, .inl (upd (fv 10) n (nI 1))))) := w
                      obtain ⟨h145, u148⟩ : ∃ z, z = pd_up h131 (ad 10) (40, .inl (.int, 14, .inl (upd (fv 10) n (nI 1)))) := ⟨_, rfl⟩
                      rw [← u148] at w
                      have k146 : pd_kq (ad 10) h131 h145 := by rw [u148]; exact pd_up_kq
                      have f147 : h145 (ad 10) = some (40, .inl (.int, 14, .inl (upd (fv 10) n (nI 1)))) := by rw [u148]; exact pd_up_s _ _ _
                      have f149 := k146 _ _ (pd_ne f135 f142 (by simp)) f135
                      have f150 := k146 _ _ (pd_ne f136 f142 (by simp)) f136
                      have f151 := k146 _ _ (pd_ne f137 f142 (by simp)) f137
                      have f152 := k146 _ _ (pd_ne f138 f142 (by simp)) f138
                      have f153 := k146 _ _ (pd_ne f139 f142 (by simp)) f139
                      have f154 := k146 _ _ (pd_ne f140 f142 (by simp)) f140
                      have f155 := k146 _ _ (pd_ne f141 f142 (by simp)) f141
                      have f156 := k146 _ _ (pd_ne f143 f142 (by simp)) f143
                      have f157 := k146 _ _ (pd_ne f133 f142 (by simp)) f133
                      refine lv_aload_n hx hb d_p15m30_311 rfl (lv_at hl 5 rfl) ?_
                      refine pd_get X w f149 rfl 8 (by decide) mT_1147 rfl rfl d_p15m30_312 ?_
                      refine lv_iload hx hb d_p15m30_315 (lv_at hl 1 rfl) ?_
                      refine lv_iload_n hx hb d_p15m30_317 rfl (lv_at hl 4 rfl) ?_
                      refine pd_iast X w f155 (hMO.2.2 8 (by decide)).2 (by omega) (by omega) d_p15m30_318 (fun H locs w => ?_)
                      have w : pd_w G s H locs (pd_up h145 (ad 8) (38, .inl (.int, 14, .inl (upd (fv 8) n (nI 0))))) := w
                      obtain ⟨h158, u161⟩ : ∃ z, z = pd_up h145 (ad 8) (38, .inl (.int, 14, .inl (upd (fv 8) n (nI 0)))) := ⟨_, rfl⟩
                      rw [← u161] at w
                      have k159 : pd_kq (ad 8) h145 h158 := by rw [u161]; exact pd_up_kq
                      have f160 : h158 (ad 8) = some (38, .inl (.int, 14, .inl (upd (fv 8) n (nI 0)))) := by rw [u161]; exact pd_up_s _ _ _
                      have f162 := k159 _ _ (pd_ne f149 f155 (by simp)) f149
                      have f163 := k159 _ _ (pd_ne f150 f155 (by simp)) f150
                      have f164 := k159 _ _ (pd_ne f151 f155 (by simp)) f151
                      have f165 := k159 _ _ (pd_ne f152 f155 (by simp)) f152
                      have f166 := k159 _ _ (pd_ne f153 f155 (by simp)) f153
                      have f167 := k159 _ _ (pd_ne f154 f155 (by simp)) f154
                      have f168 := k159 _ _ (pd_ne f156 f155 (by simp)) f156
                      have f169 := k159 _ _ (pd_ne f157 f155 (by simp)) f157
                      have f170 := k159 _ _ (pd_ne f147 f155 (by simp)) f147
                      refine lv_aload_n hx hb d_p15m30_319 rfl (lv_at hl 5 rfl) ?_
                      refine pd_get X w f162 rfl 11 (by decide) mT_1150 rfl rfl d_p15m30_320 ?_
                      refine lv_iload hx hb d_p15m30_323 (lv_at hl 1 rfl) ?_
                      refine lv_iload_n hx hb d_p15m30_325 rfl (lv_at hl 7 rfl) ?_
                      refine pd_zast (z := (nI 1)) X w f168 (hMO.2.2 11 (by decide)).2 (by omega) (by omega) (by decide) d_p15m30_326 (fun H locs w => ?_)
                      have w : pd_w G s H locs (pd_up h158 (ad 11) (41, .inl (.boolean, 14, .inl (upd (fv 11) n (nI 1))))) := w
                      obtain ⟨h171, u174⟩ : ∃ z, z = pd_up h158 (ad 11) (41, .inl (.boolean, 14, .inl (upd (fv 11) n (nI 1)))) := ⟨_, rfl⟩
                      rw [← u174] at w
                      have k172 : pd_kq (ad 11) h158 h171 := by rw [u174]; exact pd_up_kq
                      have f173 : h171 (ad 11) = some (41, .inl (.boolean, 14, .inl (upd (fv 11) n (nI 1)))) := by rw [u174]; exact pd_up_s _ _ _
                      have f175 := k172 _ _ (pd_ne f162 f168 (by simp)) f162
                      have f176 := k172 _ _ (pd_ne f163 f168 (by simp)) f163
                      have f177 := k172 _ _ (pd_ne f164 f168 (by simp)) f164
                      have f178 := k172 _ _ (pd_ne f165 f168 (by simp)) f165
                      have f179 := k172 _ _ (pd_ne f166 f168 (by simp)) f166
                      have f180 := k172 _ _ (pd_ne f167 f168 (by simp)) f167
                      have f181 := k172 _ _ (pd_ne f169 f168 (by simp)) f169
                      have f182 := k172 _ _ (pd_ne f170 f168 (by simp)) f170
                      have f183 := k172 _ _ (pd_ne f160 f168 (by simp)) f160
                      refine lv_aload_n hx hb d_p15m30_327 rfl (lv_at hl 5 rfl) ?_
                      refine pd_get X w f175 rfl 7 (by decide) mT_1146 rfl rfl d_p15m30_328 ?_
                      refine lv_iload hx hb d_p15m30_331 (lv_at hl 1 rfl) ?_
                      refine lv_aload_n hx hb d_p15m30_333 rfl (lv_at hl 5 rfl) ?_
                      refine pd_get X w f175 rfl 2 (by decide) mT_1141 rfl rfl d_p15m30_334 ?_
                      refine lv_iconst (v := nI 1) hx hb d_p15m30_337 (by decide) ?_
                      refine pd_iald X w f178 (by omega) (by omega) d_p15m30_338 ?_
                      refine pd_top (v' := .int (nI (eA 1))) (congrArg Value.int (hW.2 1 (by omega)).2.1) ?_
                      refine lv_aload_n hx hb d_p15m30_339 rfl (lv_at hl 5 rfl) ?_
                      refine pd_get X w f175 rfl 1 (by decide) mT_1140 rfl rfl d_p15m30_340 ?_
                      refine lv_iconst (v := nI 1) hx hb d_p15m30_343 (by decide) ?_
                      refine pd_iald X w f177 (by omega) (by omega) d_p15m30_344 ?_
                      refine pd_top (v' := .int (nI (sA 1))) (congrArg Value.int (hW.2 1 (by omega)).1) ?_
                      refine pd_isub hx hb d_p15m30_345 (by omega) ?_
                      refine pd_iast X w f180 (hMO.2.2 7 (by decide)).2 (by omega) (by omega) d_p15m30_346 (fun H locs w => ?_)
                      have w : pd_w G s H locs (pd_up h171 (ad 7) (37, .inl (.int, 14, .inl (upd (fv 7) n (nI ((eA 1) - (sA 1))))))) := w
                      obtain ⟨h184, u187⟩ : ∃ z, z = pd_up h171 (ad 7) (37, .inl (.int, 14, .inl (upd (fv 7) n (nI ((eA 1) - (sA 1)))))) := ⟨_, rfl⟩
                      rw [← u187] at w
                      have k185 : pd_kq (ad 7) h171 h184 := by rw [u187]; exact pd_up_kq
                      have f186 : h184 (ad 7) = some (37, .inl (.int, 14, .inl (upd (fv 7) n (nI ((eA 1) - (sA 1)))))) := by rw [u187]; exact pd_up_s _ _ _
                      have f188 := k185 _ _ (pd_ne f175 f180 (by simp)) f175
                      have f189 := k185 _ _ (pd_ne f176 f180 (by simp)) f176
                      have f190 := k185 _ _ (pd_ne f177 f180 (by simp)) f177
                      have f191 := k185 _ _ (pd_ne f178 f180 (by simp)) f178
                      have f192 := k185 _ _ (pd_ne f179 f180 (by simp)) f179
                      have f193 := k185 _ _ (pd_ne f181 f180 (by simp)) f181
                      have f194 := k185 _ _ (pd_ne f182 f180 (by simp)) f182
                      have f195 := k185 _ _ (pd_ne f183 f180 (by simp)) f183
                      have f196 := k185 _ _ (pd_ne f173 f180 (by simp)) f173
                      refine lv_iconst (v := nI 0) hx hb d_p15m30_347 (by decide) ?_
                      refine lv_istore (lv' := [(7, .int (nI 0)), (6, .int (nI n)), (5, .int (nI 1)), (4, .int (nI 3)), (3, .int (nI 0)), (0, .ref y), (1, .int (nI 4)), (2, .int (nI 1))]) hx hb d_p15m30_348 hl (by decide) rfl (fun ls hl => ?_)
                      have mo197 : pd_MO G h184 y ad (pd_fu (pd_fu (pd_fu (pd_fu (pd_fu fv 7 (upd (fv 7) n (nI ((eA 1) - (sA 1))))) 8 (upd (fv 8) n (nI 0))) 9 (upd (fv 9) ((2 * n) + 0) (nI j105))) 10 (upd (fv 10) n (nI 1))) 11 (upd (fv 11) n (nI 1))) iv tl := pd_MO.of (ts := [39, 40, 38, 41, 37]) hMO (pd_kx.tr (pd_kx.mono (us := [39, 40, 38, 41, 37]) (pd_kx.tr (pd_kx.mono (us := [39, 40, 38, 41]) (pd_kx.tr (pd_kx.mono (us := [39, 40, 38]) (pd_kx.tr (pd_kx.mono (us := [39, 40]) (pd_kq.kx (k132) ha9) (by simp)) (pd_kx.mono (us := [39, 40]) (pd_kq.kx (k146) f142) (by simp))) (by simp)) (pd_kx.mono (us := [39, 40, 38]) (pd_kq.kx (k159) f155) (by simp))) (by simp)) (pd_kx.mono (us := [39, 40, 38, 41]) (pd_kq.kx (k172) f168) (by simp))) (by simp)) (pd_kx.mono (us := [39, 40, 38, 41, 37]) (pd_kq.kx (k185) f180) (by simp))) f188 (fun j hj => if e7 : j = 7 then by subst e7; exact Or.inl f186 else if e8 : j = 8 then by subst e8; exact Or.inl f195 else if e9 : j = 9 then by subst e9; exact Or.inl f193 else if e10 : j = 10 then by subst e10; exact Or.inl f194 else if e11 : j = 11 then by subst e11; exact Or.inl f196 else Or.inr ⟨fun z => by first | (simp at z; done) | (simp at z; omega), by rw [pd_fu_n e11, pd_fu_n e10, pd_fu_n e9, pd_fu_n e8, pd_fu_n e7]⟩)
                      exact lp_Mod_declareI_350 l G h hMO hL hC hW hcut hwd hgn X hmn (100 + 1) 0 0 1 3 (some j105) none (fv 6) (upd (fv 9) ((2 * n) + 0) (nI j105)) h184 (pd_kx.mono (us := [20, 36, 37, 38, 39, 40, 41]) (pd_kx.tr (pd_kx.mono (us := [39, 40, 38, 41, 37]) (pd_kx.tr (pd_kx.mono (us := [39, 40, 38, 41]) (pd_kx.tr (pd_kx.mono (us := [39, 40, 38]) (pd_kx.tr (pd_kx.mono (us := [39, 40]) (pd_kq.kx (k132) ha9) (by simp)) (pd_kx.mono (us := [39, 40]) (pd_kq.kx (k146) f142) (by simp))) (by simp)) (pd_kx.mono (us := [39, 40, 38]) (pd_kq.kx (k159) f155) (by simp))) (by simp)) (pd_kx.mono (us := [39, 40, 38, 41]) (pd_kq.kx (k172) f168) (by simp))) (by simp)) (pd_kx.mono (us := [39, 40, 38, 41, 37]) (pd_kq.kx (k185) f180) (by simp))) (by simp)) ((pd_MO.ext (fv2 := pd_fu (pd_fu (pd_fu (pd_fu (pd_fu (pd_fu fv 6 (fv 6)) 7 (upd (fv 7) n (nI ((eA 1) - (sA 1))))) 8 (upd (fv 8) n (nI 0))) 9 (upd (fv 9) ((2 * n) + 0) (nI j105))) 10 (upd (fv 10) n (nI 1))) 11 (upd (fv 11) n (nI 1))) (iv2 := iv) mo197 (fun j9 hj9 => by by_cases e906 : j9 = 6; subst e906; rfl; by_cases e907 : j9 = 7; subst e907; rfl; by_cases e908 : j9 = 8; subst e908; rfl; by_cases e909 : j9 = 9; subst e909; rfl; by_cases e910 : j9 = 10; subst e910; rfl; by_cases e911 : j9 = 11; subst e911; rfl; simp only [pd_fu, if_neg e906, if_neg e907, if_neg e908, if_neg e909, if_neg e910, if_neg e911]) rfl)) (hcd) (hdc) (rfl) (fun t ht => by have ht : t < 1 := ht; have e9 : t = 0 := (by omega); subst e9; exact pk_us) (fun x hx => by rw [pk_un (by omega)]) (by simp) (by omega) (by omega) (fun t ht => absurd ht (Nat.not_lt_zero t)) (fun _ _ => rfl) (by omega) _ _ w ls (lv_sub hl [0, 1, 2, 3, 4, 5, 6, 7] rfl)
                    · -- not taken: 256
                      refine lv_bipush (v := -5) hx hb d_p15m30_256 (by decide) ?_
                      have hg : gr_dc n R cs true 3 = (-5, n, R) := by have z9 := gr_dc_r (n := n) (R := R) (cs := cs) (bi := true) (ff := 3) (i := 0) (by rw [hup, hfa, hfb, gr_hd_s, if_neg hnl, if_neg (fun y => y hq1), if_neg hn4]); rw [z9, gr_cadd_n (by omega)]
                      exact pd_iret (v := (-5)) X w (Or.inr ⟨hcd, by rw [hg], pd_kx.rf, fv, iv, hMO, ⟨fun _ _ => rfl, fun _ _ => rfl⟩, (by rw [hg]; exact hC)⟩) (by decide) (by decide) d_p15m30_258
                  · -- not taken: 212
                    refine lv_bipush (v := -4) hx hb d_p15m30_212 (by decide) ?_
                    have hg : gr_dc n R cs true 3 = (-4, n, R) := gr_dc_l (by rw [hup, hfa, hfb, gr_hd_s, if_neg hnl, if_neg (fun y => y hq1), if_pos (by simp [gr_pc, q116, q122])])
                    exact pd_iret (v := (-4)) X w (Or.inr ⟨hcd, by rw [hg], pd_kx.rf, fv, iv, hMO, ⟨fun _ _ => rfl, fun _ _ => rfl⟩, (by rw [hg]; exact hC)⟩) (by decide) (by decide) d_p15m30_214
                · -- not taken: 185
                  refine lv_bipush (v := -4) hx hb d_p15m30_185 (by decide) ?_
                  have hg : gr_dc n R cs true 3 = (-4, n, R) := gr_dc_l (by rw [hup, hfa, hfb, gr_hd_s, if_neg hnl, if_neg (fun y => y hq1), if_pos (by simp [gr_pc, q116])])
                  exact pd_iret (v := (-4)) X w (Or.inr ⟨hcd, by rw [hg], pd_kx.rf, fv, iv, hMO, ⟨fun _ _ => rfl, fun _ _ => rfl⟩, (by rw [hg]; exact hC)⟩) (by decide) (by decide) d_p15m30_187
              · -- some: 127
                rw [q111] at e110
                have j112lt := gr_fi_lt e110.symm
                have hq1 : gr_find R n (gr_w cs 1) = some j112 := by rw [← hwk 1 (by omega)]; exact e110.symm
                refine lv_bipush (v := -3) hx hb d_p15m30_127 (by decide) ?_
                have hg : gr_dc n R cs true 3 = (-3, n, R) := gr_dc_l (by rw [hup, hfa, hfb, gr_hd_s, if_neg hnl, if_pos (by rw [hq1]; simp)])
                exact pd_iret (v := (-3)) X w (Or.inr ⟨hcd, by rw [hg], pd_kx.rf, fv, iv, hMO, ⟨fun _ _ => rfl, fun _ _ => rfl⟩, (by rw [hg]; exact hC)⟩) (by decide) (by decide) d_p15m30_129
          · -- not taken: 87
            refine lv_iconst (v := -1) hx hb d_p15m30_87 (by decide) ?_
            exact pd_iret (v := (-1)) X w (Or.inl ⟨(fun z => of_decide_eq_false (e96.symm.trans q97) (z.2.2.2 3 (by omega) (by omega))), rfl, rfl⟩) (by decide) (by decide) d_p15m30_88
        · -- not taken: 70
          refine lv_iconst (v := -1) hx hb d_p15m30_70 (by decide) ?_
          exact pd_iret (v := (-1)) X w (Or.inl ⟨(fun z => by have z1 := z.2.2.1 (by omega); omega), rfl, rfl⟩) (by decide) (by decide) d_p15m30_71
  · -- nw = 5
    have hl : lv_has ls 8 [(0, .ref y), (1, .int (nI 5)), (2, .int (nI 1))] := hl
    refine lv_iload_n hx hb d_p15m30_0 rfl (lv_at hl 1 rfl) ?_
    refine lv_iconst (v := nI 2) hx hb d_p15m30_1 (by decide) ?_
    refine pd_jlt (tgt := 70) hx hb d_p15m30_2 (by decide) (by decide) (by decide) (fun q => absurd q (by decide)) (fun _ => ?_)
    refine lv_iload_n hx hb d_p15m30_5 rfl (lv_at hl 1 rfl) ?_
    refine lv_iconst (v := nI 3) hx hb d_p15m30_6 (by decide) ?_
    refine pd_jeq (tgt := 70) hx hb d_p15m30_7 (by decide) (by decide) (by decide) (fun q => absurd q (by decide)) (fun _ => ?_)
    refine lv_iload_n hx hb d_p15m30_10 rfl (lv_at hl 1 rfl) ?_
    refine lv_iload_n hx hb d_p15m30_11 rfl (lv_at hl 2 rfl) ?_
    refine pd_zeq (tgt := 19) hx hb d_p15m30_12 (by decide) (by decide) (fun q => absurd q (by decide)) (fun _ => ?_)
    refine lv_iconst (v := nI 5) hx hb d_p15m30_15 (by decide) ?_
    refine lv_goto (tgt := 21) hx hb d_p15m30_16 (by decide) ?_
    refine pd_jgt (tgt := 70) hx hb d_p15m30_21 (by decide) (by decide) (by decide) (fun q => absurd q (by decide)) (fun _ => ?_)
    refine lv_aload_n hx hb d_p15m30_24 rfl (lv_at hl 0 rfl) ?_
    refine lv_iconst (v := nI 1) hx hb d_p15m30_25 (by decide) ?_
    refine pd_cV (a := y) (As := [.int (nI 1)]) (rest := []) X w hy0 rfl (c_Mod_isName l G h (cs := cs) (nw := 5) (sA := sA) (eA := eA) (ad := ad) (fv := fv) (iv := iv) (tl := tl) hMO hL hW (by omega)) ok_Mod_isName ⟨mT_1307, sT_17⟩ mT_1305 ⟨by decide, by decide⟩ rfl hl.1 rfl (Nat.le_of_ble_eq_true rfl) d_p15m30_26 ⟨by decide, by decide⟩ (fun r202 h203 H locs hp204 w => ?_)
    refine W.widen (k := 0) (n := 0) (by decide) (by decide) ?_
    obtain ⟨e205, rfl⟩ := hp204
    refine pd_beq (tgt := 70) hx hb d_p15m30_29 (by decide) (fun q206 => ?_) (fun q206 => ?_)
    · -- taken: 70
      refine lv_iconst (v := -1) hx hb d_p15m30_70 (by decide) ?_
      exact pd_iret (v := (-1)) X w (Or.inl ⟨(fun z => of_decide_eq_false (e205.symm.trans q206) z.2.1), rfl, rfl⟩) (by decide) (by decide) d_p15m30_71
    · -- not taken: 32
      have hnm1 : gm_name cs (sA 1) (eA 1) = eA 1 := of_decide_eq_true (e205.symm.trans q206)
      refine lv_iload_n hx hb d_p15m30_32 rfl (lv_at hl 1 rfl) ?_
      refine lv_iconst (v := nI 3) hx hb d_p15m30_33 (by decide) ?_
      refine pd_jle (tgt := 72) hx hb d_p15m30_34 (by decide) (by decide) (by decide) (fun q => absurd q (by decide)) (fun _ => ?_)
      have hwl2 := (hW.2 2 (by omega)).2.2
      refine lv_aload_n hx hb d_p15m30_37 rfl (lv_at hl 0 rfl) ?_
      refine pd_get X w hy0 rfl 2 (by decide) mT_1141 rfl rfl d_p15m30_38 ?_
      refine lv_iconst (v := nI 2) hx hb d_p15m30_41 (by decide) ?_
      refine pd_iald X w ha2 (by omega) (by omega) d_p15m30_42 ?_
      refine pd_top (v' := .int (nI (eA 2))) (congrArg Value.int (hW.2 2 (by omega)).2.1) ?_
      refine lv_aload_n hx hb d_p15m30_43 rfl (lv_at hl 0 rfl) ?_
      refine pd_get X w hy0 rfl 1 (by decide) mT_1140 rfl rfl d_p15m30_44 ?_
      refine lv_iconst (v := nI 2) hx hb d_p15m30_47 (by decide) ?_
      refine pd_iald X w ha1 (by omega) (by omega) d_p15m30_48 ?_
      refine pd_top (v' := .int (nI (sA 2))) (congrArg Value.int (hW.2 2 (by omega)).1) ?_
      refine pd_isub hx hb d_p15m30_49 (by omega) ?_
      refine lv_iconst (v := nI 1) hx hb d_p15m30_50 (by decide) ?_
      refine pd_jne (tgt := 70) hx hb d_p15m30_51 (by decide) (by omega) (by omega) (fun q208 => ?_) (fun q208 => ?_)
      · -- taken: 70
        refine lv_iconst (v := -1) hx hb d_p15m30_70 (by decide) ?_
        exact pd_iret (v := (-1)) X w (Or.inl ⟨(fun z => by have z1 := z.2.2.1 (by omega); omega), rfl, rfl⟩) (by decide) (by decide) d_p15m30_71
      · -- not taken: 54
        refine lv_aload_n hx hb d_p15m30_54 rfl (lv_at hl 0 rfl) ?_
        refine pd_get X w hy0 rfl 0 (by decide) mT_1139 rfl rfl d_p15m30_55 ?_
        refine lv_aload_n hx hb d_p15m30_58 rfl (lv_at hl 0 rfl) ?_
        refine pd_get X w hy0 rfl 1 (by decide) mT_1140 rfl rfl d_p15m30_59 ?_
        refine lv_iconst (v := nI 2) hx hb d_p15m30_62 (by decide) ?_
        refine pd_iald X w ha1 (by omega) (by omega) d_p15m30_63 ?_
        refine pd_top (v' := .int (nI (sA 2))) (congrArg Value.int (hW.2 2 (by omega)).1) ?_
        refine pd_iald X w ha0 (by omega) (by omega) d_p15m30_64 ?_
        refine pd_top (v' := .int (nI (cs.getD (sA 2) 0))) (congrArg Value.int (hln _ (by omega))) ?_
        have := tx_lt hlc (sA 2)
        refine lv_bipush (v := nI 58) hx hb d_p15m30_65 (by decide) ?_
        refine pd_jeq (tgt := 72) hx hb d_p15m30_67 (by decide) (by omega) (by omega) (fun q209 => ?_) (fun q209 => ?_)
        · -- taken: 72
          refine lv_iconst (v := nI 3) hx hb d_p15m30_72 (by decide) ?_
          refine lv_istore_n (lv' := [(3, .int (nI 3)), (0, .ref y), (1, .int (nI 5)), (2, .int (nI 1))]) hx hb d_p15m30_73 rfl hl (by decide) rfl (fun ls hl => ?_)
          refine lv_iload_n hx hb d_p15m30_74 rfl (lv_at hl 0 rfl) ?_
          refine lv_iload_n hx hb d_p15m30_75 rfl (lv_at hl 2 rfl) ?_
          refine pd_jge (tgt := 95) hx hb d_p15m30_76 (by decide) (by decide) (by decide) (fun q => absurd q (by decide)) (fun _ => ?_)
          refine lv_aload_n hx hb d_p15m30_79 rfl (lv_at hl 1 rfl) ?_
          refine lv_iload_n hx hb d_p15m30_80 rfl (lv_at hl 0 rfl) ?_
          refine pd_cV (a := y) (As := [.int (nI 3)]) (rest := []) X w hy0 rfl (c_Mod_isName l G h (cs := cs) (nw := 5) (sA := sA) (eA := eA) (ad := ad) (fv := fv) (iv := iv) (tl := tl) hMO hL hW (by omega)) ok_Mod_isName ⟨mT_1307, sT_17⟩ mT_1305 ⟨by decide, by decide⟩ rfl hl.1 rfl (Nat.le_of_ble_eq_true rfl) d_p15m30_81 ⟨by decide, by decide⟩ (fun r211 h212 H locs hp213 w => ?_)
          refine W.widen (k := 0) (n := 0) (by decide) (by decide) ?_
          obtain ⟨e214, rfl⟩ := hp213
          refine pd_bne (tgt := 89) hx hb d_p15m30_84 (by decide) (fun q215 => ?_) (fun q215 => ?_)
          · -- taken: 89
            have hnm3 : gm_name cs (sA 3) (eA 3) = eA 3 := of_decide_eq_true (e214.symm.trans q215)
            refine pd_iinc (k := 0) (d := 1) (lv' := [(3, .int (nI 4)), (0, .ref y), (1, .int (nI 5)), (2, .int (nI 1))]) hx hb d_p15m30_89 (by decide) hl rfl (by decide) rfl (fun ls hl => ?_)
            refine lv_goto (tgt := 74) hx hb d_p15m30_92 (by decide) ?_
            refine lv_iload_n hx hb d_p15m30_74 rfl (lv_at hl 0 rfl) ?_
            refine lv_iload_n hx hb d_p15m30_75 rfl (lv_at hl 2 rfl) ?_
            refine pd_jge (tgt := 95) hx hb d_p15m30_76 (by decide) (by decide) (by decide) (fun q => absurd q (by decide)) (fun _ => ?_)
            refine lv_aload_n hx hb d_p15m30_79 rfl (lv_at hl 1 rfl) ?_
            refine lv_iload_n hx hb d_p15m30_80 rfl (lv_at hl 0 rfl) ?_
            refine pd_cV (a := y) (As := [.int (nI 4)]) (rest := []) X w hy0 rfl (c_Mod_isName l G h (cs := cs) (nw := 5) (sA := sA) (eA := eA) (ad := ad) (fv := fv) (iv := iv) (tl := tl) hMO hL hW (by omega)) ok_Mod_isName ⟨mT_1307, sT_17⟩ mT_1305 ⟨by decide, by decide⟩ rfl hl.1 rfl (Nat.le_of_ble_eq_true rfl) d_p15m30_81 ⟨by decide, by decide⟩ (fun r217 h218 H locs hp219 w => ?_)
            refine W.widen (k := 0) (n := 0) (by decide) (by decide) ?_
            obtain ⟨e220, rfl⟩ := hp219
            refine pd_bne (tgt := 89) hx hb d_p15m30_84 (by decide) (fun q221 => ?_) (fun q221 => ?_)
            · -- taken: 89
              have hnm4 : gm_name cs (sA 4) (eA 4) = eA 4 := of_decide_eq_true (e220.symm.trans q221)
              refine pd_iinc (k := 0) (d := 1) (lv' := [(3, .int (nI 5)), (0, .ref y), (1, .int (nI 5)), (2, .int (nI 1))]) hx hb d_p15m30_89 (by decide) hl rfl (by decide) rfl (fun ls hl => ?_)
              refine lv_goto (tgt := 74) hx hb d_p15m30_92 (by decide) ?_
              refine lv_iload_n hx hb d_p15m30_74 rfl (lv_at hl 0 rfl) ?_
              refine lv_iload_n hx hb d_p15m30_75 rfl (lv_at hl 2 rfl) ?_
              refine pd_jge (tgt := 95) hx hb d_p15m30_76 (by decide) (by decide) (by decide) (fun _ => ?_) (fun q => absurd q (by decide))
              have hcd : (2 ≤ 5 ∧ ¬ 5 = 3 ∧ 5 ≤ 5) ∧ gm_name cs (sA 1) (eA 1) = eA 1 ∧ (3 < 5 → eA 2 - sA 2 = 1 ∧ cs.getD (sA 2) 0 = 58) ∧ ∀ t, 3 ≤ t → t < 5 → gm_name cs (sA t) (eA t) = eA t := ⟨⟨by omega, by omega, by omega⟩, hnm1, fun _ => ⟨by omega, by omega⟩, fun t h3 h5 => by rcases (show t = 3 ∨ t = 4 by omega) with rfl | rfl <;> assumption⟩
              have hcu : (gr_cut cs).1 = 5 := hcut (by omega)
              have hwk := hwd (by omega)
              refine lv_iconst (v := nI 3) hx hb d_p15m30_95 (by decide) ?_
              refine lv_istore_n (lv' := [(3, .int (nI 3)), (0, .ref y), (1, .int (nI 5)), (2, .int (nI 1))]) hx hb d_p15m30_96 rfl hl (by decide) rfl (fun ls hl => ?_)
              refine lv_iload_n hx hb d_p15m30_97 rfl (lv_at hl 0 rfl) ?_
              refine lv_iload_n hx hb d_p15m30_98 rfl (lv_at hl 2 rfl) ?_
              refine pd_jge (tgt := 119) hx hb d_p15m30_99 (by decide) (by decide) (by decide) (fun q => absurd q (by decide)) (fun _ => ?_)
              refine lv_aload_n hx hb d_p15m30_102 rfl (lv_at hl 1 rfl) ?_
              refine lv_iload_n hx hb d_p15m30_103 rfl (lv_at hl 0 rfl) ?_
              refine pd_cV (a := y) (As := [.int (nI 3)]) (rest := []) X w hy0 rfl (c_Mod_classOf l G h (cs := cs) (nw := 5) (sA := sA) (eA := eA) (n := n) (R := R) (ad := ad) (fv := fv) (iv := iv) (tl := tl) hMO hL hW (by omega) hC) ok_Mod_classOf ⟨mT_1322, sT_20⟩ mT_1320 ⟨by decide, by decide⟩ rfl hl.1 rfl (Nat.le_of_ble_eq_true rfl) d_p15m30_104 ⟨by decide, by decide⟩ (fun r224 h225 H locs hp226 w => ?_)
              refine W.widen (k := 0) (n := 0) (by decide) (by decide) ?_
              obtain ⟨e227, rfl⟩ := hp226
              refine pd_mge (tgt := 113) hx hb d_p15m30_107 (by decide) (fun x hx => by have z := gr_fi_lt (e227.symm.trans hx); omega) (fun q228 => ?_) (fun j229 q228 => ?_)
              · -- none: 110
                rw [q228] at e227
                have hq3 : gr_find R n (gr_w cs 3) = none := by rw [← hwk 3 (by omega)]; exact e227.symm
                refine lv_bipush (v := -2) hx hb d_p15m30_110 (by decide) ?_
                have hup : gr_up n R cs true = some 0 := by unfold gr_up; rw [if_neg (fun z => by have z1 := z.1; cases z1)]
                have hg : gr_dc n R cs true 3 = (-2, n, R) := gr_dc_l (by rw [hup, gr_hd_s, if_pos (Or.inl ⟨hq3, by omega⟩)])
                exact pd_iret (v := (-2)) X w (Or.inr ⟨hcd, by rw [hg], pd_kx.rf, fv, iv, hMO, ⟨fun _ _ => rfl, fun _ _ => rfl⟩, (by rw [hg]; exact hC)⟩) (by decide) (by decide) d_p15m30_112
              · -- some: 113
                rw [q228] at e227
                have j229lt := gr_fi_lt e227.symm
                have hq3 : gr_find R n (gr_w cs 3) = some j229 := by rw [← hwk 3 (by omega)]; exact e227.symm
                refine pd_iinc (k := 0) (d := 1) (lv' := [(3, .int (nI 4)), (0, .ref y), (1, .int (nI 5)), (2, .int (nI 1))]) hx hb d_p15m30_113 (by decide) hl rfl (by decide) rfl (fun ls hl => ?_)
                refine lv_goto (tgt := 97) hx hb d_p15m30_116 (by decide) ?_
                refine lv_iload_n hx hb d_p15m30_97 rfl (lv_at hl 0 rfl) ?_
                refine lv_iload_n hx hb d_p15m30_98 rfl (lv_at hl 2 rfl) ?_
                refine pd_jge (tgt := 119) hx hb d_p15m30_99 (by decide) (by decide) (by decide) (fun q => absurd q (by decide)) (fun _ => ?_)
                refine lv_aload_n hx hb d_p15m30_102 rfl (lv_at hl 1 rfl) ?_
                refine lv_iload_n hx hb d_p15m30_103 rfl (lv_at hl 0 rfl) ?_
                refine pd_cV (a := y) (As := [.int (nI 4)]) (rest := []) X w hy0 rfl (c_Mod_classOf l G h (cs := cs) (nw := 5) (sA := sA) (eA := eA) (n := n) (R := R) (ad := ad) (fv := fv) (iv := iv) (tl := tl) hMO hL hW (by omega) hC) ok_Mod_classOf ⟨mT_1322, sT_20⟩ mT_1320 ⟨by decide, by decide⟩ rfl hl.1 rfl (Nat.le_of_ble_eq_true rfl) d_p15m30_104 ⟨by decide, by decide⟩ (fun r231 h232 H locs hp233 w => ?_)
                refine W.widen (k := 0) (n := 0) (by decide) (by decide) ?_
                obtain ⟨e234, rfl⟩ := hp233
                refine pd_mge (tgt := 113) hx hb d_p15m30_107 (by decide) (fun x hx => by have z := gr_fi_lt (e234.symm.trans hx); omega) (fun q235 => ?_) (fun j236 q235 => ?_)
                · -- none: 110
                  rw [q235] at e234
                  have hq4 : gr_find R n (gr_w cs 4) = none := by rw [← hwk 4 (by omega)]; exact e234.symm
                  refine lv_bipush (v := -2) hx hb d_p15m30_110 (by decide) ?_
                  have hup : gr_up n R cs true = some 0 := by unfold gr_up; rw [if_neg (fun z => by have z1 := z.1; cases z1)]
                  have hg : gr_dc n R cs true 3 = (-2, n, R) := gr_dc_l (by rw [hup, gr_hd_s, if_pos (Or.inr ⟨hq4, by omega⟩)])
                  exact pd_iret (v := (-2)) X w (Or.inr ⟨hcd, by rw [hg], pd_kx.rf, fv, iv, hMO, ⟨fun _ _ => rfl, fun _ _ => rfl⟩, (by rw [hg]; exact hC)⟩) (by decide) (by decide) d_p15m30_112
                · -- some: 113
                  rw [q235] at e234
                  have j236lt := gr_fi_lt e234.symm
                  have hq4 : gr_find R n (gr_w cs 4) = some j236 := by rw [← hwk 4 (by omega)]; exact e234.symm
                  refine pd_iinc (k := 0) (d := 1) (lv' := [(3, .int (nI 5)), (0, .ref y), (1, .int (nI 5)), (2, .int (nI 1))]) hx hb d_p15m30_113 (by decide) hl rfl (by decide) rfl (fun ls hl => ?_)
                  refine lv_goto (tgt := 97) hx hb d_p15m30_116 (by decide) ?_
                  refine lv_iload_n hx hb d_p15m30_97 rfl (lv_at hl 0 rfl) ?_
                  refine lv_iload_n hx hb d_p15m30_98 rfl (lv_at hl 2 rfl) ?_
                  refine pd_jge (tgt := 119) hx hb d_p15m30_99 (by decide) (by decide) (by decide) (fun _ => ?_) (fun q => absurd q (by decide))
                  have hup : gr_up n R cs true = some 0 := by unfold gr_up; rw [if_neg (fun z => by have z1 := z.1; cases z1)]
                  have hfa : gr_find R n (gr_w cs 3) = some j229 := hq3
                  have hfb : gr_find R n (gr_w cs 4) = some j236 := hq4
                  have hnl : ¬ ((some j229 = none ∧ 3 < (gr_cut cs).1) ∨ (some j236 = none ∧ 4 < (gr_cut cs).1)) := by rw [hcu]; simp
                  refine lv_aload_n hx hb d_p15m30_119 rfl (lv_at hl 1 rfl) ?_
                  refine lv_iconst (v := nI 1) hx hb d_p15m30_120 (by decide) ?_
                  refine pd_cV (a := y) (As := [.int (nI 1)]) (rest := []) X w hy0 rfl (c_Mod_classOf l G h (cs := cs) (nw := 5) (sA := sA) (eA := eA) (n := n) (R := R) (ad := ad) (fv := fv) (iv := iv) (tl := tl) hMO hL hW (by omega) hC) ok_Mod_classOf ⟨mT_1322, sT_20⟩ mT_1320 ⟨by decide, by decide⟩ rfl hl.1 rfl (Nat.le_of_ble_eq_true rfl) d_p15m30_121 ⟨by decide, by decide⟩ (fun r238 h239 H locs hp240 w => ?_)
                  refine W.widen (k := 0) (n := 0) (by decide) (by decide) ?_
                  obtain ⟨e241, rfl⟩ := hp240
                  refine pd_mlt (tgt := 130) hx hb d_p15m30_124 (by decide) (fun x hx => by have z := gr_fi_lt (e241.symm.trans hx); omega) (fun q242 => ?_) (fun j243 q242 => ?_)
                  · -- none: 130
                    rw [q242] at e241
                    have hq1 : gr_find R n (gr_w cs 1) = none := by rw [← hwk 1 (by omega)]; exact e241.symm
                    refine lv_iload_n hx hb d_p15m30_130 rfl (lv_at hl 3 rfl) ?_
                    refine pd_zne (tgt := 147) hx hb d_p15m30_131 (by decide) (by decide) (fun _ => ?_) (fun q => absurd q (by decide))
                    refine lv_iconst (v := nI 0) hx hb d_p15m30_147 (by decide) ?_
                    refine lv_istore_n (lv' := [(3, .int (nI 0)), (0, .ref y), (1, .int (nI 5)), (2, .int (nI 1))]) hx hb d_p15m30_148 rfl hl (by decide) rfl (fun ls hl => ?_)
                    refine lv_iload_n hx hb d_p15m30_149 rfl (lv_at hl 3 rfl) ?_
                    refine pd_zeq (tgt := 157) hx hb d_p15m30_150 (by decide) (by decide) (fun q => absurd q (by decide)) (fun _ => ?_)
                    refine lv_iconst (v := nI 3) hx hb d_p15m30_153 (by decide) ?_
                    refine lv_goto (tgt := 158) hx hb d_p15m30_154 (by decide) ?_
                    refine lv_istore (lv' := [(4, .int (nI 3)), (3, .int (nI 0)), (0, .ref y), (1, .int (nI 5)), (2, .int (nI 1))]) hx hb d_p15m30_158 hl (by decide) rfl (fun ls hl => ?_)
                    refine lv_iload_n hx hb d_p15m30_160 rfl (lv_at hl 3 rfl) ?_
                    refine lv_iload hx hb d_p15m30_161 (lv_at hl 0 rfl) ?_
                    refine pd_jle (tgt := 173) hx hb d_p15m30_163 (by decide) (by decide) (by decide) (fun q => absurd q (by decide)) (fun _ => ?_)
                    refine lv_iload_n hx hb d_p15m30_166 rfl (lv_at hl 3 rfl) ?_
                    refine lv_iload hx hb d_p15m30_167 (lv_at hl 0 rfl) ?_
                    refine pd_isub hx hb d_p15m30_169 (by omega) ?_
                    refine lv_goto (tgt := 174) hx hb d_p15m30_170 (by decide) ?_
                    refine lv_istore (lv' := [(5, .int (nI 2)), (4, .int (nI 3)), (3, .int (nI 0)), (0, .ref y), (1, .int (nI 5)), (2, .int (nI 1))]) hx hb d_p15m30_174 hl (by decide) rfl (fun ls hl => ?_)
                    refine lv_aload_n hx hb d_p15m30_176 rfl (lv_at hl 3 rfl) ?_
                    refine pd_get X w hy0 rfl 11 (by decide) mT_1150 rfl rfl d_p15m30_177 ?_
                    refine lv_iload_n hx hb d_p15m30_180 rfl (lv_at hl 2 rfl) ?_
                    refine pd_zald X w ha11 (by omega) (by omega) d_p15m30_181 ?_
                    refine pd_top (v' := .int (pd_b ((R 0).2.1))) (congrArg Value.int (hCc 0 (by omega)).2.2.2.2.2.1) ?_
                    refine pd_beq (tgt := 188) hx hb d_p15m30_182 (by decide) (fun q247 => ?_) (fun q247 => ?_)
                    · -- taken: 188
                      refine lv_iload hx hb d_p15m30_188 (lv_at hl 1 rfl) ?_
                      refine lv_istore (lv' := [(6, .int (nI 3)), (5, .int (nI 2)), (4, .int (nI 3)), (3, .int (nI 0)), (0, .ref y), (1, .int (nI 5)), (2, .int (nI 1))]) hx hb d_p15m30_190 hl (by decide) rfl (fun ls hl => ?_)
                      refine lv_iload hx hb d_p15m30_192 (lv_at hl 0 rfl) ?_
                      refine lv_iload_n hx hb d_p15m30_194 rfl (lv_at hl 5 rfl) ?_
                      refine pd_jge (tgt := 221) hx hb d_p15m30_195 (by decide) (by decide) (by decide) (fun q => absurd q (by decide)) (fun _ => ?_)
                      refine lv_aload_n hx hb d_p15m30_198 rfl (lv_at hl 4 rfl) ?_
                      refine pd_get X w hy0 rfl 11 (by decide) mT_1150 rfl rfl d_p15m30_199 ?_
                      refine lv_aload_n hx hb d_p15m30_202 rfl (lv_at hl 4 rfl) ?_
                      refine lv_iload hx hb d_p15m30_203 (lv_at hl 0 rfl) ?_
                      refine pd_cV (a := y) (As := [.int (nI 3)]) (rest := [.ref (ad 11)]) X w hy0 rfl (c_Mod_classOf l G h (cs := cs) (nw := 5) (sA := sA) (eA := eA) (n := n) (R := R) (ad := ad) (fv := fv) (iv := iv) (tl := tl) hMO hL hW (by omega) hC) ok_Mod_classOf ⟨mT_1322, sT_20⟩ mT_1320 ⟨by decide, by decide⟩ rfl hl.1 rfl (Nat.le_of_ble_eq_true rfl) d_p15m30_205 ⟨by decide, by decide⟩ (fun r249 h250 H locs hp251 w => ?_)
                      refine W.widen (k := 0) (n := 0) (by decide) (by decide) ?_
                      obtain ⟨e252, rfl⟩ := hp251
                      refine pd_top (v' := .int (nI j229)) (congrArg Value.int (by rw [e252, hwk 3 (by omega), hq3]; rfl)) ?_
                      refine pd_zald X w ha11 (by omega) (by omega) d_p15m30_208 ?_
                      refine pd_top (v' := .int (pd_b ((R j229).2.1))) (congrArg Value.int (hCc j229 (by omega)).2.2.2.2.2.1) ?_
                      refine pd_bne (tgt := 215) hx hb d_p15m30_209 (by decide) (fun q253 => ?_) (fun q253 => ?_)
                      · -- taken: 215
                        refine pd_iinc (k := 0) (d := 1) (lv' := [(6, .int (nI 4)), (5, .int (nI 2)), (4, .int (nI 3)), (3, .int (nI 0)), (0, .ref y), (1, .int (nI 5)), (2, .int (nI 1))]) hx hb d_p15m30_215 (by decide) hl rfl (by decide) rfl (fun ls hl => ?_)
                        refine lv_goto (tgt := 192) hx hb d_p15m30_218 (by decide) ?_
                        refine lv_iload hx hb d_p15m30_192 (lv_at hl 0 rfl) ?_
                        refine lv_iload_n hx hb d_p15m30_194 rfl (lv_at hl 5 rfl) ?_
                        refine pd_jge (tgt := 221) hx hb d_p15m30_195 (by decide) (by decide) (by decide) (fun q => absurd q (by decide)) (fun _ => ?_)
                        refine lv_aload_n hx hb d_p15m30_198 rfl (lv_at hl 4 rfl) ?_
                        refine pd_get X w hy0 rfl 11 (by decide) mT_1150 rfl rfl d_p15m30_199 ?_
                        refine lv_aload_n hx hb d_p15m30_202 rfl (lv_at hl 4 rfl) ?_
                        refine lv_iload hx hb d_p15m30_203 (lv_at hl 0 rfl) ?_
                        refine pd_cV (a := y) (As := [.int (nI 4)]) (rest := [.ref (ad 11)]) X w hy0 rfl (c_Mod_classOf l G h (cs := cs) (nw := 5) (sA := sA) (eA := eA) (n := n) (R := R) (ad := ad) (fv := fv) (iv := iv) (tl := tl) hMO hL hW (by omega) hC) ok_Mod_classOf ⟨mT_1322, sT_20⟩ mT_1320 ⟨by decide, by decide⟩ rfl hl.1 rfl (Nat.le_of_ble_eq_true rfl) d_p15m30_205 ⟨by decide, by decide⟩ (fun r255 h256 H locs hp257 w => ?_)
                        refine W.widen (k := 0) (n := 0) (by decide) (by decide) ?_
                        obtain ⟨e258, rfl⟩ := hp257
                        refine pd_top (v' := .int (nI j236)) (congrArg Value.int (by rw [e258, hwk 4 (by omega), hq4]; rfl)) ?_
                        refine pd_zald X w ha11 (by omega) (by omega) d_p15m30_208 ?_
                        refine pd_top (v' := .int (pd_b ((R j236).2.1))) (congrArg Value.int (hCc j236 (by omega)).2.2.2.2.2.1) ?_
                        refine pd_bne (tgt := 215) hx hb d_p15m30_209 (by decide) (fun q259 => ?_) (fun q259 => ?_)
                        · -- taken: 215
                          refine pd_iinc (k := 0) (d := 1) (lv' := [(6, .int (nI 5)), (5, .int (nI 2)), (4, .int (nI 3)), (3, .int (nI 0)), (0, .ref y), (1, .int (nI 5)), (2, .int (nI 1))]) hx hb d_p15m30_215 (by decide) hl rfl (by decide) rfl (fun ls hl => ?_)
                          refine lv_goto (tgt := 192) hx hb d_p15m30_218 (by decide) ?_
                          refine lv_iload hx hb d_p15m30_192 (lv_at hl 0 rfl) ?_
                          refine lv_iload_n hx hb d_p15m30_194 rfl (lv_at hl 5 rfl) ?_
                          refine pd_jge (tgt := 221) hx hb d_p15m30_195 (by decide) (by decide) (by decide) (fun _ => ?_) (fun q => absurd q (by decide))
                          refine lv_iload hx hb d_p15m30_221 (lv_at hl 1 rfl) ?_
                          refine lv_iconst (v := nI 2) hx hb d_p15m30_223 (by decide) ?_
                          refine pd_jne (tgt := 247) hx hb d_p15m30_224 (by decide) (by decide) (by decide) (fun q => absurd q (by decide)) (fun _ => ?_)
                          refine lv_aload_n hx hb d_p15m30_227 rfl (lv_at hl 4 rfl) ?_
                          refine lv_iload hx hb d_p15m30_228 (lv_at hl 2 rfl) ?_
                          refine pd_cV (a := y) (As := [.int (nI 3)]) (rest := []) X w hy0 rfl (c_Mod_classOf l G h (cs := cs) (nw := 5) (sA := sA) (eA := eA) (n := n) (R := R) (ad := ad) (fv := fv) (iv := iv) (tl := tl) hMO hL hW (by omega) hC) ok_Mod_classOf ⟨mT_1322, sT_20⟩ mT_1320 ⟨by decide, by decide⟩ rfl hl.1 rfl (Nat.le_of_ble_eq_true rfl) d_p15m30_230 ⟨by decide, by decide⟩ (fun r262 h263 H locs hp264 w => ?_)
                          refine W.widen (k := 0) (n := 0) (by decide) (by decide) ?_
                          obtain ⟨e265, rfl⟩ := hp264
                          refine pd_top (v' := .int (nI j229)) (congrArg Value.int (by rw [e265, hwk 3 (by omega), hq3]; rfl)) ?_
                          refine lv_aload_n hx hb d_p15m30_233 rfl (lv_at hl 4 rfl) ?_
                          refine lv_iload hx hb d_p15m30_234 (lv_at hl 2 rfl) ?_
                          refine lv_iconst (v := nI 1) hx hb d_p15m30_236 (by decide) ?_
                          refine pd_iadd hx hb d_p15m30_237 ?_
                          refine pd_cV (a := y) (As := [.int (nI 4)]) (rest := [.int (nI j229)]) X w hy0 rfl (c_Mod_classOf l G h (cs := cs) (nw := 5) (sA := sA) (eA := eA) (n := n) (R := R) (ad := ad) (fv := fv) (iv := iv) (tl := tl) hMO hL hW (by omega) hC) ok_Mod_classOf ⟨mT_1322, sT_20⟩ mT_1320 ⟨by decide, by decide⟩ rfl hl.1 rfl (Nat.le_of_ble_eq_true rfl) d_p15m30_238 ⟨by decide, by decide⟩ (fun r266 h267 H locs hp268 w => ?_)
                          refine W.widen (k := 0) (n := 0) (by decide) (by decide) ?_
                          obtain ⟨e269, rfl⟩ := hp268
                          refine pd_top (v' := .int (nI j236)) (congrArg Value.int (by rw [e269, hwk 4 (by omega), hq4]; rfl)) ?_
                          refine pd_jne (tgt := 247) hx hb d_p15m30_241 (by decide) (by omega) (by omega) (fun q270 => ?_) (fun q270 => ?_)
                          · -- taken: 247
                            have hn4 : ¬ ((R 0).2.1 = true ∨ gr_pc R (some j229) = true ∨ gr_pc R (some j236) = true ∨ (¬ some j229 = none ∧ some j229 = (some j236))) := by simp [gr_pc, q247, q253, q259, q270]
                            refine lv_aload_n hx hb d_p15m30_247 rfl (lv_at hl 4 rfl) ?_
                            refine pd_get X w hy0 rfl 12 (by decide) mT_1151 rfl rfl d_p15m30_248 ?_
                            refine pd_top (v' := .int (nI n)) (congrArg Value.int hiv12) ?_
                            refine lv_bipush (v := nI 14) hx hb d_p15m30_251 (by decide) ?_
                            refine pd_jne (tgt := 259) hx hb d_p15m30_253 (by decide) (by omega) (by omega) (fun q271 => ?_) (fun q271 => ?_)
                            · -- taken: 259
                              refine lv_aload_n hx hb d_p15m30_259 rfl (lv_at hl 4 rfl) ?_
                              refine pd_get X w hy0 rfl 12 (by decide) mT_1151 rfl rfl d_p15m30_260 ?_
                              refine pd_top (v' := .int (nI n)) (congrArg Value.int hiv12) ?_
                              refine lv_istore (lv' := [(6, .int (nI n)), (5, .int (nI 2)), (4, .int (nI 3)), (3, .int (nI 0)), (0, .ref y), (1, .int (nI 5)), (2, .int (nI 1))]) hx hb d_p15m30_263 hl (by decide) rfl (fun ls hl => ?_)
                              refine lv_iconst (v := nI 0) hx hb d_p15m30_265 (by decide) ?_
                              refine lv_istore (lv' := [(7, .int (nI 0)), (6, .int (nI n)), (5, .int (nI 2)), (4, .int (nI 3)), (3, .int (nI 0)), (0, .ref y), (1, .int (nI 5)), (2, .int (nI 1))]) hx hb d_p15m30_266 hl (by decide) rfl (fun ls hl => ?_)
                              refine lv_iload hx hb d_p15m30_268 (lv_at hl 0 rfl) ?_
                              refine lv_iload hx hb d_p15m30_270 (lv_at hl 2 rfl) ?_
                              refine pd_jge (tgt := 302) hx hb d_p15m30_272 (by decide) (by decide) (by decide) (fun q => absurd q (by decide)) (fun _ => ?_)
                              refine lv_aload_n hx hb d_p15m30_275 rfl (lv_at hl 5 rfl) ?_
                              refine pd_get X w hy0 rfl 9 (by decide) mT_1148 rfl rfl d_p15m30_276 ?_
                              refine lv_iconst (v := nI 2) hx hb d_p15m30_279 (by decide) ?_
                              refine lv_iload hx hb d_p15m30_280 (lv_at hl 1 rfl) ?_
                              refine pd_imul hx hb d_p15m30_282 ?_
                              refine lv_iload hx hb d_p15m30_283 (lv_at hl 0 rfl) ?_
                              refine pd_iadd hx hb d_p15m30_285 ?_
                              refine lv_aload_n hx hb d_p15m30_286 rfl (lv_at hl 5 rfl) ?_
                              refine lv_iload hx hb d_p15m30_287 (lv_at hl 3 rfl) ?_
                              refine lv_iload hx hb d_p15m30_289 (lv_at hl 0 rfl) ?_
                              refine pd_iadd hx hb d_p15m30_291 ?_
                              refine pd_cV (a := y) (As := [.int (nI 3)]) (rest := [.int (nI ((2 * n) + 0)), .ref (ad 9)]) X w hy0 rfl (c_Mod_classOf l G h (cs := cs) (nw := 5) (sA := sA) (eA := eA) (n := n) (R := R) (ad := ad) (fv := fv) (iv := iv) (tl := tl) hMO hL hW (by omega) hC) ok_Mod_classOf ⟨mT_1322, sT_20⟩ mT_1320 ⟨by decide, by decide⟩ rfl hl.1 rfl (Nat.le_of_ble_eq_true rfl) d_p15m30_292 ⟨by decide, by decide⟩ (fun r273 h274 H locs hp275 w => ?_)
                              refine W.widen (k := 0) (n := 0) (by decide) (by decide) ?_
                              obtain ⟨e276, rfl⟩ := hp275
                              refine pd_top (v' := .int (nI j229)) (congrArg Value.int (by rw [e276, hwk 3 (by omega), hq3]; rfl)) ?_
                              refine pd_iast X w ha9 (hMO.2.2 9 (by decide)).2 (by omega) (by omega) d_p15m30_295 (fun H locs w => ?_)
                              have w : pd_w G s H locs (pd_up h (ad 9) (39, .inl (.int, 28, .inl (upd (fv 9) ((2 * n) + 0) (nI j229))))) := w
                              obtain ⟨h277, u280⟩ : ∃ z, z = pd_up h (ad 9) (39, .inl (.int, 28, .inl (upd (fv 9) ((2 * n) + 0) (nI j229)))) := ⟨_, rfl⟩
                              rw [← u280] at w
                              have k278 : pd_kq (ad 9) h h277 := by rw [u280]; exact pd_up_kq
                              have f279 : h277 (ad 9) = some (39, .inl (.int, 28, .inl (upd (fv 9) ((2 * n) + 0) (nI j229)))) := by rw [u280]; exact pd_up_s _ _ _
                              have f281 := k278 _ _ (pd_ne hy0 ha9 (by simp)) hy0
                              have f282 := k278 _ _ (pd_ne ha0 ha9 (by simp)) ha0
                              have f283 := k278 _ _ (pd_ne ha1 ha9 (by simp)) ha1
                              have f284 := k278 _ _ (pd_ne ha2 ha9 (by simp)) ha2
                              have f285 := k278 _ _ (pd_ne ha6 ha9 (by simp)) ha6
                              have f286 := k278 _ _ (pd_ne ha7 ha9 (by simp)) ha7
                              have f287 := k278 _ _ (pd_ne ha8 ha9 (by simp)) ha8
                              have f288 := k278 _ _ (pd_ne ha10 ha9 (by simp)) ha10
                              have f289 := k278 _ _ (pd_ne ha11 ha9 (by simp)) ha11
                              refine pd_iinc (k := 0) (d := 1) (lv' := [(7, .int (nI 1)), (6, .int (nI n)), (5, .int (nI 2)), (4, .int (nI 3)), (3, .int (nI 0)), (0, .ref y), (1, .int (nI 5)), (2, .int (nI 1))]) hx hb d_p15m30_296 (by decide) hl rfl (by decide) rfl (fun ls hl => ?_)
                              refine lv_goto (tgt := 268) hx hb d_p15m30_299 (by decide) ?_
                              refine lv_iload hx hb d_p15m30_268 (lv_at hl 0 rfl) ?_
                              refine lv_iload hx hb d_p15m30_270 (lv_at hl 2 rfl) ?_
                              refine pd_jge (tgt := 302) hx hb d_p15m30_272 (by decide) (by decide) (by decide) (fun q => absurd q (by decide)) (fun _ => ?_)
                              refine lv_aload_n hx hb d_p15m30_275 rfl (lv_at hl 5 rfl) ?_
                              refine pd_get X w f281 rfl 9 (by decide) mT_1148 rfl rfl d_p15m30_276 ?_
                              refine lv_iconst (v := nI 2) hx hb d_p15m30_279 (by decide) ?_
                              refine lv_iload hx hb d_p15m30_280 (lv_at hl 1 rfl) ?_
                              refine pd_imul hx hb d_p15m30_282 ?_
                              refine lv_iload hx hb d_p15m30_283 (lv_at hl 0 rfl) ?_
                              refine pd_iadd hx hb d_p15m30_285 ?_
                              refine lv_aload_n hx hb d_p15m30_286 rfl (lv_at hl 5 rfl) ?_
                              refine lv_iload hx hb d_p15m30_287 (lv_at hl 3 rfl) ?_
                              refine lv_iload hx hb d_p15m30_289 (lv_at hl 0 rfl) ?_
                              refine pd_iadd hx hb d_p15m30_291 ?_
                              have mo291 : pd_MO G h277 y ad (pd_fu fv 9 (upd (fv 9) ((2 * n) + 0) (nI j229))) iv tl := pd_MO.of (ts := [39]) hMO (pd_kq.kx (k278) ha9) f281 (fun j hj => if e9 : j = 9 then by subst e9; exact Or.inl f279 else Or.inr ⟨fun z => by first | (simp at z; done) | (simp at z; omega), by rw [pd_fu_n e9]⟩)
                              refine pd_cV (a := y) (As := [.int (nI 4)]) (rest := [.int (nI ((2 * n) + 1)), .ref (ad 9)]) X w f281 rfl (c_Mod_classOf l G h277 (cs := cs) (nw := 5) (sA := sA) (eA := eA) (n := n) (R := R) (ad := ad) (fv := pd_fu fv 9 (upd (fv 9) ((2 * n) + 0) (nI j229))) (iv := iv) (tl := tl) mo291 hL hW (by omega) (gm_C_9 hC (fun x hx => by rw [pk_un (by omega)]))) ok_Mod_classOf ⟨mT_1322, sT_20⟩ mT_1320 ⟨by decide, by decide⟩ rfl hl.1 rfl (Nat.le_of_ble_eq_true rfl) d_p15m30_292 ⟨by decide, by decide⟩ (fun r292 h293 H locs hp294 w => ?_)
                              refine W.widen (k := 0) (n := 0) (by decide) (by decide) ?_
                              obtain ⟨e295, rfl⟩ := hp294
                              refine pd_top (v' := .int (nI j236)) (congrArg Value.int (by rw [e295, hwk 4 (by omega), hq4]; rfl)) ?_
                              refine pd_iast X w f279 (hMO.2.2 9 (by decide)).2 (by omega) (by omega) d_p15m30_295 (fun H locs w => ?_)
                              have w : pd_w G s H locs (pd_up h277 (ad 9) (39, .inl (.int, 28, .inl (upd (upd (fv 9) ((2 * n) + 0) (nI j229)) ((2 * n) + 1) (nI j236))))) := w
                              obtain ⟨h296, u299⟩ : ∃ z, z = pd_up h277 (ad 9) (39, .inl (.int, 28, .inl (upd (upd (fv 9) ((2 * n) + 0) (nI j229)) ((2 * n) + 1) (nI j236)))) := ⟨_, rfl⟩
                              rw [← u299] at w
                              have k297 : pd_kq (ad 9) h277 h296 := by rw [u299]; exact pd_up_kq
                              have f298 : h296 (ad 9) = some (39, .inl (.int, 28, .inl (upd (upd (fv 9) ((2 * n) + 0) (nI j229)) ((2 * n) + 1) (nI j236)))) := by rw [u299]; exact pd_up_s _ _ _
                              have f300 := k297 _ _ (pd_ne f281 f279 (by simp)) f281
                              have f301 := k297 _ _ (pd_ne f282 f279 (by simp)) f282
                              have f302 := k297 _ _ (pd_ne f283 f279 (by simp)) f283
                              have f303 := k297 _ _ (pd_ne f284 f279 (by simp)) f284
                              have f304 := k297 _ _ (pd_ne f285 f279 (by simp)) f285
                              have f305 := k297 _ _ (pd_ne f286 f279 (by simp)) f286
                              have f306 := k297 _ _ (pd_ne f287 f279 (by simp)) f287
                              have f307 := k297 _ _ (pd_ne f288 f279 (by simp)) f288
                              have f308 := k297 _ _ (pd_ne f289 f279 (by simp)) f289
                              refine pd_iinc (k := 0) (d := 1) (lv' := [(7, .int (nI 2)), (6, .int (nI n)), (5, .int (nI 2)), (4, .int (nI 3)), (3, .int (nI 0)), (0, .ref y), (1, .int (nI 5)), (2, .int (nI 1))]) hx hb d_p15m30_296 (by decide) hl rfl (by decide) rfl (fun ls hl => ?_)
                              refine lv_goto (tgt := 268) hx hb d_p15m30_299 (by decide) ?_
                              refine lv_iload hx hb d_p15m30_268 (lv_at hl 0 rfl) ?_
                              refine lv_iload hx hb d_p15m30_270 (lv_at hl 2 rfl) ?_
                              refine pd_jge (tgt := 302) hx hb d_p15m30_272 (by decide) (by decide) (by decide) (fun _ => ?_) (fun q => absurd q (by decide))
                              have hwl1 := (hW.2 1 (by omega)).2.2
                              have hdc : gr_dc n R cs true 3 = gr_cadd n R (gr_row R n (gr_w cs 1) true (some 0) (some j229) (some j236)) := by have z9 := gr_dc_r (n := n) (R := R) (cs := cs) (bi := true) (ff := 3) (i := 0) (by rw [hup, hfa, hfb, gr_hd_s, if_neg hnl, if_neg (fun y => y hq1), if_neg hn4]); rw [hfa, hfb] at z9; exact z9
                              refine lv_aload_n hx hb d_p15m30_302 rfl (lv_at hl 5 rfl) ?_
                              refine pd_get X w f300 rfl 10 (by decide) mT_1149 rfl rfl d_p15m30_303 ?_
                              refine lv_iload hx hb d_p15m30_306 (lv_at hl 1 rfl) ?_
                              refine lv_iload hx hb d_p15m30_308 (lv_at hl 2 rfl) ?_
                              refine pd_iast X w f307 (hMO.2.2 10 (by decide)).2 (by omega) (by omega) d_p15m30_310 (fun H locs w => ?_)
                              have w : pd_w G s H locs (pd_up h296 (ad 10) (40, .inl (.int, 14, .inl (upd (fv 10) n (nI 2))))) := w
                              obtain ⟨h310, u313⟩ : ∃ z, z = pd_up h296 (ad 10) (40, .inl (.int, 14, .inl (upd (fv 10) n (nI 2)))) := ⟨_, rfl⟩
                              rw [← u313] at w
                              have k311 : pd_kq (ad 10) h296 h310 := by rw [u313]; exact pd_up_kq
                              have f312 : h310 (ad 10) = some (40, .inl (.int, 14, .inl (upd (fv 10) n (nI 2)))) := by rw [u313]; exact pd_up_s _ _ _
                              have f314 := k311 _ _ (pd_ne f300 f307 (by simp)) f300
                              have f315 := k311 _ _ (pd_ne f301 f307 (by simp)) f301
                              have f316 := k311 _ _ (pd_ne f302 f307 (by simp)) f302
                              have f317 := k311 _ _ (pd_ne f303 f307 (by simp)) f303
                              have f318 := k311 _ _ (pd_ne f304 f307 (by simp)) f304
                              have f319 := k311 _ _ (pd_ne f305 f307 (by simp)) f305
                              have f320 := k311 _ _ (pd_ne f306 f307 (by simp)) f306
                              have f321 := k311 _ _ (pd_ne f308 f307 (by simp)) f308
                              have f322 := k311 _ _ (pd_ne f298 f307 (by simp)) f298
                              refine lv_aload_n hx hb d_p15m30_311 rfl (lv_at hl 5 rfl) ?_
                              refine pd_get X w f314 rfl 8 (by decide) mT_1147 rfl rfl d_p15m30_312 ?_
                              refine lv_iload hx hb d_p15m30_315 (lv_at hl 1 rfl) ?_
                              refine lv_iload_n hx hb d_p15m30_317 rfl (lv_at hl 4 rfl) ?_
                              refine pd_iast X w f320 (hMO.2.2 8 (by decide)).2 (by omega) (by omega) d_p15m30_318 (fun H locs w => ?_)
                              have w : pd_w G s H locs (pd_up h310 (ad 8) (38, .inl (.int, 14, .inl (upd (fv 8) n (nI 0))))) := w
                              obtain ⟨h323, u326⟩ : ∃ z, z = pd_up h310 (ad 8) (38, .inl (.int, 14, .inl (upd (fv 8) n (nI 0)))) := ⟨_, rfl⟩
                              rw [← u326] at w
                              have k324 : pd_kq (ad 8) h310 h323 := by rw [u326]; exact pd_up_kq
                              have f325 : h323 (ad 8) = some (38, .inl (.int, 14, .inl (upd (fv 8) n (nI 0)))) := by rw [u326]; exact pd_up_s _ _ _
                              have f327 := k324 _ _ (pd_ne f314 f320 (by simp)) f314
                              have f328 := k324 _ _ (pd_ne f315 f320 (by simp)) f315
                              have f329 := k324 _ _ (pd_ne f316 f320 (by simp)) f316
                              have f330 := k324 _ _ (pd_ne f317 f320 (by simp)) f317
                              have f331 := k324 _ _ (pd_ne f318 f320 (by simp)) f318
                              have f332 := k324 _ _ (pd_ne f319 f320 (by simp)) f319
                              have f333 := k324 _ _ (pd_ne f321 f320 (by simp)) f321
                              have f334 := k324 _ _ (pd_ne f322 f320 (by simp)) f322
                              have f335 := k324 _ _ (pd_ne f312 f320 (by simp)) f312
                              refine lv_aload_n hx hb d_p15m30_319 rfl (lv_at hl 5 rfl) ?_
                              refine pd_get X w f327 rfl 11 (by decide) mT_1150 rfl rfl d_p15m30_320 ?_
                              refine lv_iload hx hb d_p15m30_323 (lv_at hl 1 rfl) ?_
                              refine lv_iload_n hx hb d_p15m30_325 rfl (lv_at hl 7 rfl) ?_
                              refine pd_zast (z := (nI 1)) X w f333 (hMO.2.2 11 (by decide)).2 (by omega) (by omega) (by decide) d_p15m30_326 (fun H locs w => ?_)
                              have w : pd_w G s H locs (pd_up h323 (ad 11) (41, .inl (.boolean, 14, .inl (upd (fv 11) n (nI 1))))) := w
                              obtain ⟨h336, u339⟩ : ∃ z, z = pd_up h323 (ad 11) (41, .inl (.boolean, 14, .inl (upd (fv 11) n (nI 1)))) := ⟨_, rfl⟩
                              rw [← u339] at w
                              have k337 : pd_kq (ad 11) h323 h336 := by rw [u339]; exact pd_up_kq
                              have f338 : h336 (ad 11) = some (41, .inl (.boolean, 14, .inl (upd (fv 11) n (nI 1)))) := by rw [u339]; exact pd_up_s _ _ _
                              have f340 := k337 _ _ (pd_ne f327 f333 (by simp)) f327
                              have f341 := k337 _ _ (pd_ne f328 f333 (by simp)) f328
                              have f342 := k337 _ _ (pd_ne f329 f333 (by simp)) f329
                              have f343 := k337 _ _ (pd_ne f330 f333 (by simp)) f330
                              have f344 := k337 _ _ (pd_ne f331 f333 (by simp)) f331
                              have f345 := k337 _ _ (pd_ne f332 f333 (by simp)) f332
                              have f346 := k337 _ _ (pd_ne f334 f333 (by simp)) f334
                              have f347 := k337 _ _ (pd_ne f335 f333 (by simp)) f335
                              have f348 := k337 _ _ (pd_ne f325 f333 (by simp)) f325
                              refine lv_aload_n hx hb d_p15m30_327 rfl (lv_at hl 5 rfl) ?_
                              refine pd_get X w f340 rfl 7 (by decide) mT_1146 rfl rfl d_p15m30_328 ?_
                              refine lv_iload hx hb d_p15m30_331 (lv_at hl 1 rfl) ?_
                              refine lv_aload_n hx hb d_p15m30_333 rfl (lv_at hl 5 rfl) ?_
                              refine pd_get X w f340 rfl 2 (by decide) mT_1141 rfl rfl d_p15m30_334 ?_
                              refine lv_iconst (v := nI 1) hx hb d_p15m30_337 (by decide) ?_
                              refine pd_iald X w f343 (by omega) (by omega) d_p15m30_338 ?_
                              refine pd_top (v' := .int (nI (eA 1))) (congrArg Value.int (hW.2 1 (by omega)).2.1) ?_
                              refine lv_aload_n hx hb d_p15m30_339 rfl (lv_at hl 5 rfl) ?_
                              refine pd_get X w f340 rfl 1 (by decide) mT_1140 rfl rfl d_p15m30_340 ?_
                              refine lv_iconst (v := nI 1) hx hb d_p15m30_343 (by decide) ?_
                              refine pd_iald X w f342 (by omega) (by omega) d_p15m30_344 ?_
                              refine pd_top (v' := .int (nI (sA 1))) (congrArg Value.int (hW.2 1 (by omega)).1) ?_
                              refine pd_isub hx hb d_p15m30_345 (by omega) ?_
                              refine pd_iast X w f345 (hMO.2.2 7 (by decide)).2 (by omega) (by omega) d_p15m30_346 (fun H locs w => ?_)
                              have w : pd_w G s H locs (pd_up h336 (ad 7) (37, .inl (.int, 14, .inl (upd (fv 7) n (nI ((eA 1) - (sA 1))))))) := w
                              obtain ⟨h349, u352⟩ : ∃ z, z = pd_up h336 (ad 7) (37, .inl (.int, 14, .inl (upd (fv 7) n (nI ((eA 1) - (sA 1)))))) := ⟨_, rfl⟩
                              rw [← u352] at w
                              have k350 : pd_kq (ad 7) h336 h349 := by rw [u352]; exact pd_up_kq
                              have f351 : h349 (ad 7) = some (37, .inl (.int, 14, .inl (upd (fv 7) n (nI ((eA 1) - (sA 1)))))) := by rw [u352]; exact pd_up_s _ _ _
                              have f353 := k350 _ _ (pd_ne f340 f345 (by simp)) f340
                              have f354 := k350 _ _ (pd_ne f341 f345 (by simp)) f341
                              have f355 := k350 _ _ (pd_ne f342 f345 (by simp)) f342
                              have f356 := k350 _ _ (pd_ne f343 f345 (by simp)) f343
                              have f357 := k350 _ _ (pd_ne f344 f345 (by simp)) f344
                              have f358 := k350 _ _ (pd_ne f346 f345 (by simp)) f346
                              have f359 := k350 _ _ (pd_ne f347 f345 (by simp)) f347
                              have f360 := k350 _ _ (pd_ne f348 f345 (by simp)) f348
                              have f361 := k350 _ _ (pd_ne f338 f345 (by simp)) f338
                              refine lv_iconst (v := nI 0) hx hb d_p15m30_347 (by decide) ?_
                              refine lv_istore (lv' := [(7, .int (nI 0)), (6, .int (nI n)), (5, .int (nI 2)), (4, .int (nI 3)), (3, .int (nI 0)), (0, .ref y), (1, .int (nI 5)), (2, .int (nI 1))]) hx hb d_p15m30_348 hl (by decide) rfl (fun ls hl => ?_)
                              have mo362 : pd_MO G h349 y ad (pd_fu (pd_fu (pd_fu (pd_fu (pd_fu fv 7 (upd (fv 7) n (nI ((eA 1) - (sA 1))))) 8 (upd (fv 8) n (nI 0))) 9 (upd (upd (fv 9) ((2 * n) + 0) (nI j229)) ((2 * n) + 1) (nI j236))) 10 (upd (fv 10) n (nI 2))) 11 (upd (fv 11) n (nI 1))) iv tl := pd_MO.of (ts := [39, 40, 38, 41, 37]) hMO (pd_kx.tr (pd_kx.mono (us := [39, 40, 38, 41, 37]) (pd_kx.tr (pd_kx.mono (us := [39, 40, 38, 41]) (pd_kx.tr (pd_kx.mono (us := [39, 40, 38]) (pd_kx.tr (pd_kx.mono (us := [39, 40]) (pd_kx.tr (pd_kq.kx (k278) ha9) (pd_kq.kx (k297) f279)) (by simp)) (pd_kx.mono (us := [39, 40]) (pd_kq.kx (k311) f307) (by simp))) (by simp)) (pd_kx.mono (us := [39, 40, 38]) (pd_kq.kx (k324) f320) (by simp))) (by simp)) (pd_kx.mono (us := [39, 40, 38, 41]) (pd_kq.kx (k337) f333) (by simp))) (by simp)) (pd_kx.mono (us := [39, 40, 38, 41, 37]) (pd_kq.kx (k350) f345) (by simp))) f353 (fun j hj => if e7 : j = 7 then by subst e7; exact Or.inl f351 else if e8 : j = 8 then by subst e8; exact Or.inl f360 else if e9 : j = 9 then by subst e9; exact Or.inl f358 else if e10 : j = 10 then by subst e10; exact Or.inl f359 else if e11 : j = 11 then by subst e11; exact Or.inl f361 else Or.inr ⟨fun z => by first | (simp at z; done) | (simp at z; omega), by rw [pd_fu_n e11, pd_fu_n e10, pd_fu_n e9, pd_fu_n e8, pd_fu_n e7]⟩)
                              exact lp_Mod_declareI_350 l G h hMO hL hC hW hcut hwd hgn X hmn (100 + 1) 0 0 2 3 (some j229) (some j236) (fv 6) (upd (upd (fv 9) ((2 * n) + 0) (nI j229)) ((2 * n) + 1) (nI j236)) h349 (pd_kx.mono (us := [20, 36, 37, 38, 39, 40, 41]) (pd_kx.tr (pd_kx.mono (us := [39, 40, 38, 41, 37]) (pd_kx.tr (pd_kx.mono (us := [39, 40, 38, 41]) (pd_kx.tr (pd_kx.mono (us := [39, 40, 38]) (pd_kx.tr (pd_kx.mono (us := [39, 40]) (pd_kx.tr (pd_kq.kx (k278) ha9) (pd_kq.kx (k297) f279)) (by simp)) (pd_kx.mono (us := [39, 40]) (pd_kq.kx (k311) f307) (by simp))) (by simp)) (pd_kx.mono (us := [39, 40, 38]) (pd_kq.kx (k324) f320) (by simp))) (by simp)) (pd_kx.mono (us := [39, 40, 38, 41]) (pd_kq.kx (k337) f333) (by simp))) (by simp)) (pd_kx.mono (us := [39, 40, 38, 41, 37]) (pd_kq.kx (k350) f345) (by simp))) (by simp)) ((pd_MO.ext (fv2 := pd_fu (pd_fu (pd_fu (pd_fu (pd_fu (pd_fu fv 6 (fv 6)) 7 (upd (fv 7) n (nI ((eA 1) - (sA 1))))) 8 (upd (fv 8) n (nI 0))) 9 (upd (upd (fv 9) ((2 * n) + 0) (nI j229)) ((2 * n) + 1) (nI j236))) 10 (upd (fv 10) n (nI 2))) 11 (upd (fv 11) n (nI 1))) (iv2 := iv) mo362 (fun j9 hj9 => by by_cases e906 : j9 = 6; subst e906; rfl; by_cases e907 : j9 = 7; subst e907; rfl; by_cases e908 : j9 = 8; subst e908; rfl; by_cases e909 : j9 = 9; subst e909; rfl; by_cases e910 : j9 = 10; subst e910; rfl; by_cases e911 : j9 = 11; subst e911; rfl; simp only [pd_fu, if_neg e906, if_neg e907, if_neg e908, if_neg e909, if_neg e910, if_neg e911]) rfl)) (hcd) (hdc) (rfl) (fun t ht => by have ht : t < 2 := ht; rcases (show t = 0 ∨ t = 1 by omega) with e9 | e9; subst e9; rw [pk_un (by omega)]; exact pk_us; subst e9; exact pk_us) (fun x hx => by rw [pk_un (by omega), pk_un (by omega)]) (by simp) (by omega) (by omega) (fun t ht => absurd ht (Nat.not_lt_zero t)) (fun _ _ => rfl) (by omega) _ _ w ls (lv_sub hl [0, 1, 2, 3, 4, 5, 6, 7] rfl)
                            · -- not taken: 256
                              refine lv_bipush (v := -5) hx hb d_p15m30_256 (by decide) ?_
                              have hg : gr_dc n R cs true 3 = (-5, n, R) := by have z9 := gr_dc_r (n := n) (R := R) (cs := cs) (bi := true) (ff := 3) (i := 0) (by rw [hup, hfa, hfb, gr_hd_s, if_neg hnl, if_neg (fun y => y hq1), if_neg hn4]); rw [z9, gr_cadd_n (by omega)]
                              exact pd_iret (v := (-5)) X w (Or.inr ⟨hcd, by rw [hg], pd_kx.rf, fv, iv, hMO, ⟨fun _ _ => rfl, fun _ _ => rfl⟩, (by rw [hg]; exact hC)⟩) (by decide) (by decide) d_p15m30_258
                          · -- not taken: 244
                            refine lv_bipush (v := -4) hx hb d_p15m30_244 (by decide) ?_
                            have hg : gr_dc n R cs true 3 = (-4, n, R) := gr_dc_l (by rw [hup, hfa, hfb, gr_hd_s, if_neg hnl, if_neg (fun y => y hq1), if_pos (by simp [gr_pc, q247, q253, q259, q270])])
                            exact pd_iret (v := (-4)) X w (Or.inr ⟨hcd, by rw [hg], pd_kx.rf, fv, iv, hMO, ⟨fun _ _ => rfl, fun _ _ => rfl⟩, (by rw [hg]; exact hC)⟩) (by decide) (by decide) d_p15m30_246
                        · -- not taken: 212
                          refine lv_bipush (v := -4) hx hb d_p15m30_212 (by decide) ?_
                          have hg : gr_dc n R cs true 3 = (-4, n, R) := gr_dc_l (by rw [hup, hfa, hfb, gr_hd_s, if_neg hnl, if_neg (fun y => y hq1), if_pos (by simp [gr_pc, q247, q253, q259])])
                          exact pd_iret (v := (-4)) X w (Or.inr ⟨hcd, by rw [hg], pd_kx.rf, fv, iv, hMO, ⟨fun _ _ => rfl, fun _ _ => rfl⟩, (by rw [hg]; exact hC)⟩) (by decide) (by decide) d_p15m30_214
                      · -- not taken: 212
                        refine lv_bipush (v := -4) hx hb d_p15m30_212 (by decide) ?_
                        have hg : gr_dc n R cs true 3 = (-4, n, R) := gr_dc_l (by rw [hup, hfa, hfb, gr_hd_s, if_neg hnl, if_neg (fun y => y hq1), if_pos (by simp [gr_pc, q247, q253])])
                        exact pd_iret (v := (-4)) X w (Or.inr ⟨hcd, by rw [hg], pd_kx.rf, fv, iv, hMO, ⟨fun _ _ => rfl, fun _ _ => rfl⟩, (by rw [hg]; exact hC)⟩) (by decide) (by decide) d_p15m30_214
                    · -- not taken: 185
                      refine lv_bipush (v := -4) hx hb d_p15m30_185 (by decide) ?_
                      have hg : gr_dc n R cs true 3 = (-4, n, R) := gr_dc_l (by rw [hup, hfa, hfb, gr_hd_s, if_neg hnl, if_neg (fun y => y hq1), if_pos (by simp [gr_pc, q247])])
                      exact pd_iret (v := (-4)) X w (Or.inr ⟨hcd, by rw [hg], pd_kx.rf, fv, iv, hMO, ⟨fun _ _ => rfl, fun _ _ => rfl⟩, (by rw [hg]; exact hC)⟩) (by decide) (by decide) d_p15m30_187
                  · -- some: 127
                    rw [q242] at e241
                    have j243lt := gr_fi_lt e241.symm
                    have hq1 : gr_find R n (gr_w cs 1) = some j243 := by rw [← hwk 1 (by omega)]; exact e241.symm
                    refine lv_bipush (v := -3) hx hb d_p15m30_127 (by decide) ?_
                    have hg : gr_dc n R cs true 3 = (-3, n, R) := gr_dc_l (by rw [hup, hfa, hfb, gr_hd_s, if_neg hnl, if_pos (by rw [hq1]; simp)])
                    exact pd_iret (v := (-3)) X w (Or.inr ⟨hcd, by rw [hg], pd_kx.rf, fv, iv, hMO, ⟨fun _ _ => rfl, fun _ _ => rfl⟩, (by rw [hg]; exact hC)⟩) (by decide) (by decide) d_p15m30_129
            · -- not taken: 87
              refine lv_iconst (v := -1) hx hb d_p15m30_87 (by decide) ?_
              exact pd_iret (v := (-1)) X w (Or.inl ⟨(fun z => of_decide_eq_false (e220.symm.trans q221) (z.2.2.2 4 (by omega) (by omega))), rfl, rfl⟩) (by decide) (by decide) d_p15m30_88
          · -- not taken: 87
            refine lv_iconst (v := -1) hx hb d_p15m30_87 (by decide) ?_
            exact pd_iret (v := (-1)) X w (Or.inl ⟨(fun z => of_decide_eq_false (e214.symm.trans q215) (z.2.2.2 3 (by omega) (by omega))), rfl, rfl⟩) (by decide) (by decide) d_p15m30_88
        · -- not taken: 70
          refine lv_iconst (v := -1) hx hb d_p15m30_70 (by decide) ?_
          exact pd_iret (v := (-1)) X w (Or.inl ⟨(fun z => by have z1 := z.2.2.1 (by omega); omega), rfl, rfl⟩) (by decide) (by decide) d_p15m30_71
  · -- nw = 6
    have hl : lv_has ls 8 [(0, .ref y), (1, .int (nI 6)), (2, .int (nI 1))] := hl
    refine lv_iload_n hx hb d_p15m30_0 rfl (lv_at hl 1 rfl) ?_
    refine lv_iconst (v := nI 2) hx hb d_p15m30_1 (by decide) ?_
    refine pd_jlt (tgt := 70) hx hb d_p15m30_2 (by decide) (by decide) (by decide) (fun q => absurd q (by decide)) (fun _ => ?_)
    refine lv_iload_n hx hb d_p15m30_5 rfl (lv_at hl 1 rfl) ?_
    refine lv_iconst (v := nI 3) hx hb d_p15m30_6 (by decide) ?_
    refine pd_jeq (tgt := 70) hx hb d_p15m30_7 (by decide) (by decide) (by decide) (fun q => absurd q (by decide)) (fun _ => ?_)
    refine lv_iload_n hx hb d_p15m30_10 rfl (lv_at hl 1 rfl) ?_
    refine lv_iload_n hx hb d_p15m30_11 rfl (lv_at hl 2 rfl) ?_
    refine pd_zeq (tgt := 19) hx hb d_p15m30_12 (by decide) (by decide) (fun q => absurd q (by decide)) (fun _ => ?_)
    refine lv_iconst (v := nI 5) hx hb d_p15m30_15 (by decide) ?_
    refine lv_goto (tgt := 21) hx hb d_p15m30_16 (by decide) ?_
    refine pd_jgt (tgt := 70) hx hb d_p15m30_21 (by decide) (by decide) (by decide) (fun _ => ?_) (fun q => absurd q (by decide))
    refine lv_iconst (v := -1) hx hb d_p15m30_70 (by decide) ?_
    exact pd_iret (v := (-1)) X w (Or.inl ⟨(fun z => by have z1 := z.1; omega), rfl, rfl⟩) (by decide) (by decide) d_p15m30_71
  · -- nw = nw
    have hl : lv_has ls 8 [(0, .ref y), (1, .int (nI nw)), (2, .int (nI 1))] := hl
    refine lv_iload_n hx hb d_p15m30_0 rfl (lv_at hl 1 rfl) ?_
    refine lv_iconst (v := nI 2) hx hb d_p15m30_1 (by decide) ?_
    refine pd_jlt (tgt := 70) hx hb d_p15m30_2 (by decide) (by omega) (by omega) (fun q367 => ?_) (fun q367 => ?_)
    · -- taken: 70
      refine lv_iconst (v := -1) hx hb d_p15m30_70 (by decide) ?_
      exact pd_iret (v := (-1)) X w (Or.inl ⟨(fun z => by have z1 := z.1; omega), rfl, rfl⟩) (by decide) (by decide) d_p15m30_71
    · -- not taken: 5
      refine lv_iload_n hx hb d_p15m30_5 rfl (lv_at hl 1 rfl) ?_
      refine lv_iconst (v := nI 3) hx hb d_p15m30_6 (by decide) ?_
      refine pd_jeq (tgt := 70) hx hb d_p15m30_7 (by decide) (by omega) (by omega) (fun q368 => ?_) (fun q368 => ?_)
      · -- taken: 70
        refine lv_iconst (v := -1) hx hb d_p15m30_70 (by decide) ?_
        exact pd_iret (v := (-1)) X w (Or.inl ⟨(fun z => by have z1 := z.1; omega), rfl, rfl⟩) (by decide) (by decide) d_p15m30_71
      · -- not taken: 10
        refine lv_iload_n hx hb d_p15m30_10 rfl (lv_at hl 1 rfl) ?_
        refine lv_iload_n hx hb d_p15m30_11 rfl (lv_at hl 2 rfl) ?_
        refine pd_zeq (tgt := 19) hx hb d_p15m30_12 (by decide) (by decide) (fun q => absurd q (by decide)) (fun _ => ?_)
        refine lv_iconst (v := nI 5) hx hb d_p15m30_15 (by decide) ?_
        refine lv_goto (tgt := 21) hx hb d_p15m30_16 (by decide) ?_
        refine pd_jgt (tgt := 70) hx hb d_p15m30_21 (by decide) (by omega) (by omega) (fun q370 => ?_) (fun q370 => ?_)
        · -- taken: 70
          refine lv_iconst (v := -1) hx hb d_p15m30_70 (by decide) ?_
          exact pd_iret (v := (-1)) X w (Or.inl ⟨(fun z => by have z1 := z.1; omega), rfl, rfl⟩) (by decide) (by decide) d_p15m30_71
        · -- not taken: 24
          exfalso
          omega
