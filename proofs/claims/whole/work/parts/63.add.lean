/-! the reference takes a member -/
section PDZA
variable {p : Program} {l : Launch} {e : Env} {R : Room} {s : State} {m : MethodId} {args : Array Value} {below : List Frame} {meth : Method} {c : Code} {H : Heap} {locs : List Loc} {cells slots : Nat} {Q : State → Prop}
variable {cc : ByteArray} {pc nL : Nat} {ls : Array Slot} {rest : List Value} {G : pd_G} {own : String} {ret : Option FieldType} {h : pd_H} {a tg n i : Nat} {f : Nat → Int32}
theorem pd_zast {x z : Int32} (X : pd_B p s m args meth c G own cc nL ret) (w : pd_w G s H locs h) (ho : h a = some (tg, .inl (.boolean, n, .inl f))) (hz : G.2.1 ≤ a) (hi : i < n) (hn : n < 2 ^ 31) (hxz : narrow .boolean (.int x) = .int z) (hdg : decode cc pc = .ok (.bastore, 1))
    (kk : ∀ (H1 : Heap) (locs1 : List Loc), pd_w G s H1 locs1 (pd_up h a (tg, .inl (.boolean, n, .inl (upd f i z)))) → W p l e R s m args below meth c H1 locs1 cells slots Q (F0 m (pc + 1) ls rest)) : W p l e R s m args below meth c H locs cells slots Q (F0 m pc ls (.int x :: .int (nI i) :: .ref a :: rest)) := by
  obtain ⟨cA, k1, k2, k3⟩ := (w.1.2 a _ ho).2 hz
  have k3 : H[a]? = some (vp_cell cA (n, .inl f)) := k3
  obtain ⟨c1, c2⟩ := pd_clamp hi hn
  refine W.zast X.1 X.2.1 k3 (k1 n (fun j => .int (f j))) (fun q => by cases q) (by show ¬ (nI i < 0 ∨ (arrV _ _ _).slots.size ≤ _); rw [arrV_size]; exact c2) rfl rfl hdg fun H1 e zz oq => ?_
  rw [c1, hxz, pd_ast (x := (n, .inl f)) (x' := (n, .inl (upd f i z))) rfl (pd_el_i f n i _)] at e
  rw [c1]
  exact kk H1 _ ⟨w.1.put (c := (tg, .inl (.boolean, n, .inl (upd f i z)))) ⟨cA, k1, k2, e⟩ zz oq, w.2.1.put X.2.2.2.2.2.2.2.2.2.1 hz, w.2.2.put zz oq hz⟩
end PDZA
theorem gm_M_add {fv fv2 : Nat → Nat → Int32} {iv iv2 : Nat → Int32} {n k : Nat} {M : Nat → pd_mr} {row : pd_mr} (hM : gm_M fv iv n k M) (hk : k < 24) (hi : iv2 20 = nI (k + 1)) (e13 : fv2 13 = upd (fv 13) k (nI row.1)) (hn : row.1 < n) (e14 : fv2 14 = upd (fv 14) k (nI row.2.2.2)) (hm : row.2.2.2 < 4) (e16 : fv2 16 = upd (fv 16) k (nI row.2.1.length)) (hl : row.2.1.length ≤ 12) (hc : ∀ x ∈ row.2.1, x < 256) (h15 : ∀ i, i < row.2.1.length → fv2 15 (12 * k + i) = nI (row.2.1.getD i 0)) (k15 : ∀ x, x < 12 * k → fv2 15 x = fv 15 x) (e18 : fv2 18 = upd (fv 18) k (nI row.2.2.1.length)) (hl2 : row.2.2.1.length ≤ 60) (hc2 : ∀ x ∈ row.2.2.1, x < 256) (h17 : ∀ i, i < row.2.2.1.length → fv2 17 (60 * k + i) = nI (row.2.2.1.getD i 0)) (k17 : ∀ x, x < 60 * k → fv2 17 x = fv 17 x) (e19 : fv2 19 = upd (fv 19) k (pd_b (gr_ism row.2.2.1))) : gm_M fv2 iv2 n (k + 1) (pd_fu M k row) := by
  obtain ⟨_, hk24, hMm⟩ := hM
  refine ⟨hi, by omega, fun j hj => ?_⟩
  rw [e13, e14, e16, e18, e19]
  by_cases e : j = k
  · subst e
    rw [pd_fu_s, pk_us, pk_us, pk_us, pk_us, pk_us]
    exact ⟨rfl, hn, rfl, hm, rfl, hl, h15, hc, rfl, hl2, h17, hc2, rfl⟩
  · obtain ⟨r1, r2, r3, r4, r5, r6, r7, r8, r9, r10, r11, r12, r13⟩ := hMm j (by omega)
    rw [pd_fu_n e, pk_un e, pk_un e, pk_un e, pk_un e, pk_un e]
    refine ⟨r1, r2, r3, r4, r5, r6, fun i hi => ?_, r8, r9, r10, fun i hi => ?_, r12, r13⟩
    · rw [k15 _ (by omega)]
      exact r7 i hi
    · rw [k17 _ (by omega)]
      exact r11 i hi
theorem gm_fin_o : ∀ t, t < 8 → gm_oc 7312272859201431910 t = ([102, 105, 110, 97, 108, 105, 122, 101] : List Nat).getD t 0 := by decide +kernel
theorem gm_fin_n1 {cs : List Nat} {x y a b : Nat} (hy : y ≤ cs.length) (hb : b ≤ cs.length) (h : ¬ (y - x = 8 ∧ b - a = 3 ∧ cs.getD (b - 1) 0 = 86)) : ¬ (tx_sub cs x y = [102, 105, 110, 97, 108, 105, 122, 101] ∧ tx_sub cs a b = [40, 41, 86]) := by
  rintro ⟨z1, z2⟩
  have l1 := congrArg List.length z1
  have l2 := congrArg List.length z2
  rw [tx_sub_len hy] at l1
  rw [tx_sub_len hb] at l2
  have l1 : y - x = 8 := l1
  have l2 : b - a = 3 := l2
  have z3 : (tx_sub cs a b).getD 2 0 = 86 := by rw [z2]; rfl
  rw [tx_sub_get (by omega)] at z3
  exact h ⟨l1, l2, by rw [show b - 1 = a + 2 by omega]; exact z3⟩
theorem gm_fin_n2 {cs : List Nat} {x y t : Nat} {a b : Nat} (hy : y ≤ cs.length) (ht : t < 8) (h : ¬ cs.getD (x + t) 0 = gm_oc 7312272859201431910 t) : ¬ (tx_sub cs x y = [102, 105, 110, 97, 108, 105, 122, 101] ∧ tx_sub cs a b = [40, 41, 86]) := by
  rintro ⟨z1, z2⟩
  have l1 := congrArg List.length z1
  rw [tx_sub_len hy] at l1
  have l1 : y - x = 8 := l1
  apply h
  rw [gm_fin_o t ht, ← z1, tx_sub_get (by omega)]
theorem gm_fin_y {cs : List Nat} {x y : Nat} (hy : y ≤ cs.length) (h8 : y - x = 8) (h : ∀ t, t < 8 → cs.getD (x + t) 0 = gm_oc 7312272859201431910 t) : tx_sub cs x y = [102, 105, 110, 97, 108, 105, 122, 101] := (tx_eq_at hy (by rw [h8]; rfl) (fun t ht => by rw [h t (by omega), gm_fin_o t (by omega)])).symm
theorem d_p15m31_0 : decode prog_15_method_31_code 0 = .ok (.iload_n 1, 1) := by decide +kernel
theorem d_p15m31_1 : decode prog_15_method_31_code 1 = .ok (.iconst 3, 1) := by decide +kernel
theorem d_p15m31_2 : decode prog_15_method_31_code 2 = .ok (.iconst 4, 1) := by decide +kernel
theorem d_p15m31_3 : decode prog_15_method_31_code 3 = .ok (.invokestatic 109, 3) := by decide +kernel
theorem d_p15m31_6 : decode prog_15_method_31_code 6 = .ok (.ifCond .eq 34, 3) := by decide +kernel
theorem d_p15m31_9 : decode prog_15_method_31_code 9 = .ok (.aload_n 0, 1) := by decide +kernel
theorem d_p15m31_10 : decode prog_15_method_31_code 10 = .ok (.iconst 1, 1) := by decide +kernel
theorem d_p15m31_11 : decode prog_15_method_31_code 11 = .ok (.invokevirtual 239, 3) := by decide +kernel
theorem d_p15m31_14 : decode prog_15_method_31_code 14 = .ok (.ifCond .eq 26, 3) := by decide +kernel
theorem d_p15m31_17 : decode prog_15_method_31_code 17 = .ok (.iload_n 2, 1) := by decide +kernel
theorem d_p15m31_18 : decode prog_15_method_31_code 18 = .ok (.ifCond .eq 14, 3) := by decide +kernel
theorem d_p15m31_21 : decode prog_15_method_31_code 21 = .ok (.aload_n 0, 1) := by decide +kernel
theorem d_p15m31_22 : decode prog_15_method_31_code 22 = .ok (.iconst 2, 1) := by decide +kernel
theorem d_p15m31_23 : decode prog_15_method_31_code 23 = .ok (.invokevirtual 242, 3) := by decide +kernel
theorem d_p15m31_26 : decode prog_15_method_31_code 26 = .ok (.ifCond .ne 16, 3) := by decide +kernel
theorem d_p15m31_29 : decode prog_15_method_31_code 29 = .ok (.goto 11, 3) := by decide +kernel
theorem d_p15m31_32 : decode prog_15_method_31_code 32 = .ok (.aload_n 0, 1) := by decide +kernel
theorem d_p15m31_33 : decode prog_15_method_31_code 33 = .ok (.iconst 2, 1) := by decide +kernel
theorem d_p15m31_34 : decode prog_15_method_31_code 34 = .ok (.invokevirtual 245, 3) := by decide +kernel
theorem d_p15m31_37 : decode prog_15_method_31_code 37 = .ok (.ifCond .ne 5, 3) := by decide +kernel
theorem d_p15m31_40 : decode prog_15_method_31_code 40 = .ok (.iconst (-1), 1) := by decide +kernel
theorem d_p15m31_41 : decode prog_15_method_31_code 41 = .ok (.ireturn, 1) := by decide +kernel
theorem d_p15m31_42 : decode prog_15_method_31_code 42 = .ok (.iload_n 1, 1) := by decide +kernel
theorem d_p15m31_43 : decode prog_15_method_31_code 43 = .ok (.iconst 4, 1) := by decide +kernel
theorem d_p15m31_44 : decode prog_15_method_31_code 44 = .ok (.if_icmp .ne 11, 3) := by decide +kernel
theorem d_p15m31_47 : decode prog_15_method_31_code 47 = .ok (.aload_n 0, 1) := by decide +kernel
theorem d_p15m31_48 : decode prog_15_method_31_code 48 = .ok (.iconst 3, 1) := by decide +kernel
theorem d_p15m31_49 : decode prog_15_method_31_code 49 = .ok (.invokevirtual 248, 3) := by decide +kernel
theorem d_p15m31_52 : decode prog_15_method_31_code 52 = .ok (.goto 4, 3) := by decide +kernel
theorem d_p15m31_55 : decode prog_15_method_31_code 55 = .ok (.iconst 0, 1) := by decide +kernel
theorem d_p15m31_56 : decode prog_15_method_31_code 56 = .ok (.istore_n 3, 1) := by decide +kernel
theorem d_p15m31_57 : decode prog_15_method_31_code 57 = .ok (.iload_n 3, 1) := by decide +kernel
theorem d_p15m31_58 : decode prog_15_method_31_code 58 = .ok (.ifCond .ge 5, 3) := by decide +kernel
theorem d_p15m31_61 : decode prog_15_method_31_code 61 = .ok (.iconst (-1), 1) := by decide +kernel
theorem d_p15m31_62 : decode prog_15_method_31_code 62 = .ok (.ireturn, 1) := by decide +kernel
theorem d_p15m31_63 : decode prog_15_method_31_code 63 = .ok (.aload_n 0, 1) := by decide +kernel
theorem d_p15m31_64 : decode prog_15_method_31_code 64 = .ok (.aload_n 0, 1) := by decide +kernel
theorem d_p15m31_65 : decode prog_15_method_31_code 65 = .ok (.getfield 13, 3) := by decide +kernel
theorem d_p15m31_68 : decode prog_15_method_31_code 68 = .ok (.iconst 1, 1) := by decide +kernel
theorem d_p15m31_69 : decode prog_15_method_31_code 69 = .ok (.iaload, 1) := by decide +kernel
theorem d_p15m31_70 : decode prog_15_method_31_code 70 = .ok (.aload_n 0, 1) := by decide +kernel
theorem d_p15m31_71 : decode prog_15_method_31_code 71 = .ok (.getfield 130, 3) := by decide +kernel
theorem d_p15m31_74 : decode prog_15_method_31_code 74 = .ok (.invokevirtual 145, 3) := by decide +kernel
theorem d_p15m31_77 : decode prog_15_method_31_code 77 = .ok (.istore 4, 2) := by decide +kernel
theorem d_p15m31_79 : decode prog_15_method_31_code 79 = .ok (.aload_n 0, 1) := by decide +kernel
theorem d_p15m31_80 : decode prog_15_method_31_code 80 = .ok (.getfield 16, 3) := by decide +kernel
theorem d_p15m31_83 : decode prog_15_method_31_code 83 = .ok (.iconst 1, 1) := by decide +kernel
theorem d_p15m31_84 : decode prog_15_method_31_code 84 = .ok (.iaload, 1) := by decide +kernel
theorem d_p15m31_85 : decode prog_15_method_31_code 85 = .ok (.istore 5, 2) := by decide +kernel
theorem d_p15m31_87 : decode prog_15_method_31_code 87 = .ok (.iload 4, 2) := by decide +kernel
theorem d_p15m31_89 : decode prog_15_method_31_code 89 = .ok (.ifCond .ge 6, 3) := by decide +kernel
theorem d_p15m31_92 : decode prog_15_method_31_code 92 = .ok (.bipush (-2), 2) := by decide +kernel
theorem d_p15m31_94 : decode prog_15_method_31_code 94 = .ok (.ireturn, 1) := by decide +kernel
theorem d_p15m31_95 : decode prog_15_method_31_code 95 = .ok (.aload_n 0, 1) := by decide +kernel
theorem d_p15m31_96 : decode prog_15_method_31_code 96 = .ok (.iload 4, 2) := by decide +kernel
theorem d_p15m31_98 : decode prog_15_method_31_code 98 = .ok (.iload 5, 2) := by decide +kernel
theorem d_p15m31_100 : decode prog_15_method_31_code 100 = .ok (.iconst 2, 1) := by decide +kernel
theorem d_p15m31_101 : decode prog_15_method_31_code 101 = .ok (.iload_n 2, 1) := by decide +kernel
theorem d_p15m31_102 : decode prog_15_method_31_code 102 = .ok (.invokevirtual 165, 3) := by decide +kernel
theorem d_p15m31_105 : decode prog_15_method_31_code 105 = .ok (.ifCond .lt 6, 3) := by decide +kernel
theorem d_p15m31_108 : decode prog_15_method_31_code 108 = .ok (.bipush (-3), 2) := by decide +kernel
theorem d_p15m31_110 : decode prog_15_method_31_code 110 = .ok (.ireturn, 1) := by decide +kernel
theorem d_p15m31_111 : decode prog_15_method_31_code 111 = .ok (.iload_n 2, 1) := by decide +kernel
theorem d_p15m31_112 : decode prog_15_method_31_code 112 = .ok (.ifCond .eq 54, 3) := by decide +kernel
theorem d_p15m31_115 : decode prog_15_method_31_code 115 = .ok (.iload 5, 2) := by decide +kernel
theorem d_p15m31_117 : decode prog_15_method_31_code 117 = .ok (.aload_n 0, 1) := by decide +kernel
theorem d_p15m31_118 : decode prog_15_method_31_code 118 = .ok (.getfield 133, 3) := by decide +kernel
theorem d_p15m31_121 : decode prog_15_method_31_code 121 = .ok (.isub, 1) := by decide +kernel
theorem d_p15m31_122 : decode prog_15_method_31_code 122 = .ok (.bipush 8, 2) := by decide +kernel
theorem d_p15m31_124 : decode prog_15_method_31_code 124 = .ok (.if_icmp .ne 42, 3) := by decide +kernel
theorem d_p15m31_127 : decode prog_15_method_31_code 127 = .ok (.aload_n 0, 1) := by decide +kernel
theorem d_p15m31_128 : decode prog_15_method_31_code 128 = .ok (.getfield 16, 3) := by decide +kernel
theorem d_p15m31_131 : decode prog_15_method_31_code 131 = .ok (.iconst 2, 1) := by decide +kernel
theorem d_p15m31_132 : decode prog_15_method_31_code 132 = .ok (.iaload, 1) := by decide +kernel
theorem d_p15m31_133 : decode prog_15_method_31_code 133 = .ok (.aload_n 0, 1) := by decide +kernel
theorem d_p15m31_134 : decode prog_15_method_31_code 134 = .ok (.getfield 13, 3) := by decide +kernel
theorem d_p15m31_137 : decode prog_15_method_31_code 137 = .ok (.iconst 2, 1) := by decide +kernel
theorem d_p15m31_138 : decode prog_15_method_31_code 138 = .ok (.iaload, 1) := by decide +kernel
theorem d_p15m31_139 : decode prog_15_method_31_code 139 = .ok (.isub, 1) := by decide +kernel
theorem d_p15m31_140 : decode prog_15_method_31_code 140 = .ok (.iconst 3, 1) := by decide +kernel
theorem d_p15m31_141 : decode prog_15_method_31_code 141 = .ok (.if_icmp .ne 25, 3) := by decide +kernel
theorem d_p15m31_144 : decode prog_15_method_31_code 144 = .ok (.aload_n 0, 1) := by decide +kernel
theorem d_p15m31_145 : decode prog_15_method_31_code 145 = .ok (.getfield 7, 3) := by decide +kernel
theorem d_p15m31_148 : decode prog_15_method_31_code 148 = .ok (.aload_n 0, 1) := by decide +kernel
theorem d_p15m31_149 : decode prog_15_method_31_code 149 = .ok (.getfield 16, 3) := by decide +kernel
theorem d_p15m31_152 : decode prog_15_method_31_code 152 = .ok (.iconst 2, 1) := by decide +kernel
theorem d_p15m31_153 : decode prog_15_method_31_code 153 = .ok (.iaload, 1) := by decide +kernel
theorem d_p15m31_154 : decode prog_15_method_31_code 154 = .ok (.iconst 1, 1) := by decide +kernel
theorem d_p15m31_155 : decode prog_15_method_31_code 155 = .ok (.isub, 1) := by decide +kernel
theorem d_p15m31_156 : decode prog_15_method_31_code 156 = .ok (.iaload, 1) := by decide +kernel
theorem d_p15m31_157 : decode prog_15_method_31_code 157 = .ok (.bipush 86, 2) := by decide +kernel
theorem d_p15m31_159 : decode prog_15_method_31_code 159 = .ok (.if_icmp .ne 7, 3) := by decide +kernel
theorem d_p15m31_162 : decode prog_15_method_31_code 162 = .ok (.iconst 1, 1) := by decide +kernel
theorem d_p15m31_163 : decode prog_15_method_31_code 163 = .ok (.goto 4, 3) := by decide +kernel
theorem d_p15m31_166 : decode prog_15_method_31_code 166 = .ok (.iconst 0, 1) := by decide +kernel
theorem d_p15m31_167 : decode prog_15_method_31_code 167 = .ok (.istore 6, 2) := by decide +kernel
theorem d_p15m31_169 : decode prog_15_method_31_code 169 = .ok (.iconst 0, 1) := by decide +kernel
theorem d_p15m31_170 : decode prog_15_method_31_code 170 = .ok (.istore 7, 2) := by decide +kernel
theorem d_p15m31_172 : decode prog_15_method_31_code 172 = .ok (.iload 7, 2) := by decide +kernel
theorem d_p15m31_174 : decode prog_15_method_31_code 174 = .ok (.bipush 8, 2) := by decide +kernel
theorem d_p15m31_176 : decode prog_15_method_31_code 176 = .ok (.if_icmp .ge 50, 3) := by decide +kernel
theorem d_p15m31_179 : decode prog_15_method_31_code 179 = .ok (.iload 6, 2) := by decide +kernel
theorem d_p15m31_181 : decode prog_15_method_31_code 181 = .ok (.ifCond .eq 45, 3) := by decide +kernel
theorem d_p15m31_184 : decode prog_15_method_31_code 184 = .ok (.aload_n 0, 1) := by decide +kernel
theorem d_p15m31_185 : decode prog_15_method_31_code 185 = .ok (.getfield 7, 3) := by decide +kernel
theorem d_p15m31_188 : decode prog_15_method_31_code 188 = .ok (.aload_n 0, 1) := by decide +kernel
theorem d_p15m31_189 : decode prog_15_method_31_code 189 = .ok (.getfield 133, 3) := by decide +kernel
theorem d_p15m31_192 : decode prog_15_method_31_code 192 = .ok (.iload 7, 2) := by decide +kernel
theorem d_p15m31_194 : decode prog_15_method_31_code 194 = .ok (.iadd, 1) := by decide +kernel
theorem d_p15m31_195 : decode prog_15_method_31_code 195 = .ok (.iaload, 1) := by decide +kernel
theorem d_p15m31_196 : decode prog_15_method_31_code 196 = .ok (.ldc2_w 251, 3) := by decide +kernel
theorem d_p15m31_199 : decode prog_15_method_31_code 199 = .ok (.bipush 8, 2) := by decide +kernel
theorem d_p15m31_201 : decode prog_15_method_31_code 201 = .ok (.iload 7, 2) := by decide +kernel
theorem d_p15m31_203 : decode prog_15_method_31_code 203 = .ok (.imul, 1) := by decide +kernel
theorem d_p15m31_204 : decode prog_15_method_31_code 204 = .ok (.lshr, 1) := by decide +kernel
theorem d_p15m31_205 : decode prog_15_method_31_code 205 = .ok (.ldc2_w 107, 3) := by decide +kernel
theorem d_p15m31_208 : decode prog_15_method_31_code 208 = .ok (.land, 1) := by decide +kernel
theorem d_p15m31_209 : decode prog_15_method_31_code 209 = .ok (.l2i, 1) := by decide +kernel
theorem d_p15m31_210 : decode prog_15_method_31_code 210 = .ok (.if_icmp .ne 7, 3) := by decide +kernel
theorem d_p15m31_213 : decode prog_15_method_31_code 213 = .ok (.iconst 1, 1) := by decide +kernel
theorem d_p15m31_214 : decode prog_15_method_31_code 214 = .ok (.goto 4, 3) := by decide +kernel
theorem d_p15m31_217 : decode prog_15_method_31_code 217 = .ok (.iconst 0, 1) := by decide +kernel
theorem d_p15m31_218 : decode prog_15_method_31_code 218 = .ok (.istore 6, 2) := by decide +kernel
theorem d_p15m31_220 : decode prog_15_method_31_code 220 = .ok (.iinc 7 1, 3) := by decide +kernel
theorem d_p15m31_223 : decode prog_15_method_31_code 223 = .ok (.goto (-51), 3) := by decide +kernel
theorem d_p15m31_226 : decode prog_15_method_31_code 226 = .ok (.iload 6, 2) := by decide +kernel
theorem d_p15m31_228 : decode prog_15_method_31_code 228 = .ok (.ifCond .eq 6, 3) := by decide +kernel
theorem d_p15m31_231 : decode prog_15_method_31_code 231 = .ok (.bipush (-4), 2) := by decide +kernel
theorem d_p15m31_233 : decode prog_15_method_31_code 233 = .ok (.ireturn, 1) := by decide +kernel
theorem d_p15m31_234 : decode prog_15_method_31_code 234 = .ok (.aload_n 0, 1) := by decide +kernel
theorem d_p15m31_235 : decode prog_15_method_31_code 235 = .ok (.getfield 148, 3) := by decide +kernel
theorem d_p15m31_238 : decode prog_15_method_31_code 238 = .ok (.bipush 24, 2) := by decide +kernel
theorem d_p15m31_240 : decode prog_15_method_31_code 240 = .ok (.if_icmp .ne 6, 3) := by decide +kernel
theorem d_p15m31_243 : decode prog_15_method_31_code 243 = .ok (.bipush (-5), 2) := by decide +kernel
theorem d_p15m31_245 : decode prog_15_method_31_code 245 = .ok (.ireturn, 1) := by decide +kernel
theorem d_p15m31_246 : decode prog_15_method_31_code 246 = .ok (.aload_n 0, 1) := by decide +kernel
theorem d_p15m31_247 : decode prog_15_method_31_code 247 = .ok (.getfield 148, 3) := by decide +kernel
theorem d_p15m31_250 : decode prog_15_method_31_code 250 = .ok (.istore 7, 2) := by decide +kernel
theorem d_p15m31_252 : decode prog_15_method_31_code 252 = .ok (.aload_n 0, 1) := by decide +kernel
theorem d_p15m31_253 : decode prog_15_method_31_code 253 = .ok (.getfield 42, 3) := by decide +kernel
theorem d_p15m31_256 : decode prog_15_method_31_code 256 = .ok (.iload 7, 2) := by decide +kernel
theorem d_p15m31_258 : decode prog_15_method_31_code 258 = .ok (.iload 4, 2) := by decide +kernel
theorem d_p15m31_260 : decode prog_15_method_31_code 260 = .ok (.iastore, 1) := by decide +kernel
theorem d_p15m31_261 : decode prog_15_method_31_code 261 = .ok (.aload_n 0, 1) := by decide +kernel
theorem d_p15m31_262 : decode prog_15_method_31_code 262 = .ok (.getfield 45, 3) := by decide +kernel
theorem d_p15m31_265 : decode prog_15_method_31_code 265 = .ok (.iload 7, 2) := by decide +kernel
theorem d_p15m31_267 : decode prog_15_method_31_code 267 = .ok (.iload_n 3, 1) := by decide +kernel
theorem d_p15m31_268 : decode prog_15_method_31_code 268 = .ok (.iastore, 1) := by decide +kernel
theorem d_p15m31_269 : decode prog_15_method_31_code 269 = .ok (.aload_n 0, 1) := by decide +kernel
theorem d_p15m31_270 : decode prog_15_method_31_code 270 = .ok (.getfield 60, 3) := by decide +kernel
theorem d_p15m31_273 : decode prog_15_method_31_code 273 = .ok (.iload 7, 2) := by decide +kernel
theorem d_p15m31_275 : decode prog_15_method_31_code 275 = .ok (.iload_n 2, 1) := by decide +kernel
theorem d_p15m31_276 : decode prog_15_method_31_code 276 = .ok (.bastore, 1) := by decide +kernel
theorem d_p15m31_277 : decode prog_15_method_31_code 277 = .ok (.aload_n 0, 1) := by decide +kernel
theorem d_p15m31_278 : decode prog_15_method_31_code 278 = .ok (.getfield 51, 3) := by decide +kernel
theorem d_p15m31_281 : decode prog_15_method_31_code 281 = .ok (.iload 7, 2) := by decide +kernel
theorem d_p15m31_283 : decode prog_15_method_31_code 283 = .ok (.iload 5, 2) := by decide +kernel
theorem d_p15m31_285 : decode prog_15_method_31_code 285 = .ok (.aload_n 0, 1) := by decide +kernel
theorem d_p15m31_286 : decode prog_15_method_31_code 286 = .ok (.getfield 133, 3) := by decide +kernel
theorem d_p15m31_289 : decode prog_15_method_31_code 289 = .ok (.isub, 1) := by decide +kernel
theorem d_p15m31_290 : decode prog_15_method_31_code 290 = .ok (.iastore, 1) := by decide +kernel
theorem d_p15m31_291 : decode prog_15_method_31_code 291 = .ok (.iconst 0, 1) := by decide +kernel
theorem d_p15m31_292 : decode prog_15_method_31_code 292 = .ok (.istore 8, 2) := by decide +kernel
theorem d_p15m31_294 : decode prog_15_method_31_code 294 = .ok (.iload 8, 2) := by decide +kernel
theorem d_p15m31_296 : decode prog_15_method_31_code 296 = .ok (.aload_n 0, 1) := by decide +kernel
theorem d_p15m31_297 : decode prog_15_method_31_code 297 = .ok (.getfield 51, 3) := by decide +kernel
theorem d_p15m31_300 : decode prog_15_method_31_code 300 = .ok (.iload 7, 2) := by decide +kernel
theorem d_p15m31_302 : decode prog_15_method_31_code 302 = .ok (.iaload, 1) := by decide +kernel
theorem d_p15m31_303 : decode prog_15_method_31_code 303 = .ok (.if_icmp .ge 34, 3) := by decide +kernel
theorem d_p15m31_306 : decode prog_15_method_31_code 306 = .ok (.aload_n 0, 1) := by decide +kernel
theorem d_p15m31_307 : decode prog_15_method_31_code 307 = .ok (.getfield 48, 3) := by decide +kernel
theorem d_p15m31_310 : decode prog_15_method_31_code 310 = .ok (.bipush 12, 2) := by decide +kernel
theorem d_p15m31_312 : decode prog_15_method_31_code 312 = .ok (.iload 7, 2) := by decide +kernel
theorem d_p15m31_314 : decode prog_15_method_31_code 314 = .ok (.imul, 1) := by decide +kernel
theorem d_p15m31_315 : decode prog_15_method_31_code 315 = .ok (.iload 8, 2) := by decide +kernel
theorem d_p15m31_317 : decode prog_15_method_31_code 317 = .ok (.iadd, 1) := by decide +kernel
theorem d_p15m31_318 : decode prog_15_method_31_code 318 = .ok (.aload_n 0, 1) := by decide +kernel
theorem d_p15m31_319 : decode prog_15_method_31_code 319 = .ok (.getfield 7, 3) := by decide +kernel
theorem d_p15m31_322 : decode prog_15_method_31_code 322 = .ok (.aload_n 0, 1) := by decide +kernel
theorem d_p15m31_323 : decode prog_15_method_31_code 323 = .ok (.getfield 133, 3) := by decide +kernel
theorem d_p15m31_326 : decode prog_15_method_31_code 326 = .ok (.iload 8, 2) := by decide +kernel
theorem d_p15m31_328 : decode prog_15_method_31_code 328 = .ok (.iadd, 1) := by decide +kernel
theorem d_p15m31_329 : decode prog_15_method_31_code 329 = .ok (.iaload, 1) := by decide +kernel
theorem d_p15m31_330 : decode prog_15_method_31_code 330 = .ok (.iastore, 1) := by decide +kernel
theorem d_p15m31_331 : decode prog_15_method_31_code 331 = .ok (.iinc 8 1, 3) := by decide +kernel
theorem d_p15m31_334 : decode prog_15_method_31_code 334 = .ok (.goto (-40), 3) := by decide +kernel
theorem d_p15m31_337 : decode prog_15_method_31_code 337 = .ok (.aload_n 0, 1) := by decide +kernel
theorem d_p15m31_338 : decode prog_15_method_31_code 338 = .ok (.getfield 57, 3) := by decide +kernel
theorem d_p15m31_341 : decode prog_15_method_31_code 341 = .ok (.iload 7, 2) := by decide +kernel
theorem d_p15m31_343 : decode prog_15_method_31_code 343 = .ok (.aload_n 0, 1) := by decide +kernel
theorem d_p15m31_344 : decode prog_15_method_31_code 344 = .ok (.getfield 16, 3) := by decide +kernel
theorem d_p15m31_347 : decode prog_15_method_31_code 347 = .ok (.iconst 2, 1) := by decide +kernel
theorem d_p15m31_348 : decode prog_15_method_31_code 348 = .ok (.iaload, 1) := by decide +kernel
theorem d_p15m31_349 : decode prog_15_method_31_code 349 = .ok (.aload_n 0, 1) := by decide +kernel
theorem d_p15m31_350 : decode prog_15_method_31_code 350 = .ok (.getfield 13, 3) := by decide +kernel
theorem d_p15m31_353 : decode prog_15_method_31_code 353 = .ok (.iconst 2, 1) := by decide +kernel
theorem d_p15m31_354 : decode prog_15_method_31_code 354 = .ok (.iaload, 1) := by decide +kernel
theorem d_p15m31_355 : decode prog_15_method_31_code 355 = .ok (.isub, 1) := by decide +kernel
theorem d_p15m31_356 : decode prog_15_method_31_code 356 = .ok (.iastore, 1) := by decide +kernel
theorem d_p15m31_357 : decode prog_15_method_31_code 357 = .ok (.iconst 0, 1) := by decide +kernel
theorem d_p15m31_358 : decode prog_15_method_31_code 358 = .ok (.istore 8, 2) := by decide +kernel
theorem d_p15m31_360 : decode prog_15_method_31_code 360 = .ok (.iload 8, 2) := by decide +kernel
theorem d_p15m31_362 : decode prog_15_method_31_code 362 = .ok (.aload_n 0, 1) := by decide +kernel
theorem d_p15m31_363 : decode prog_15_method_31_code 363 = .ok (.getfield 57, 3) := by decide +kernel
theorem d_p15m31_366 : decode prog_15_method_31_code 366 = .ok (.iload 7, 2) := by decide +kernel
theorem d_p15m31_368 : decode prog_15_method_31_code 368 = .ok (.iaload, 1) := by decide +kernel
theorem d_p15m31_369 : decode prog_15_method_31_code 369 = .ok (.if_icmp .ge 36, 3) := by decide +kernel
theorem d_p15m31_372 : decode prog_15_method_31_code 372 = .ok (.aload_n 0, 1) := by decide +kernel
theorem d_p15m31_373 : decode prog_15_method_31_code 373 = .ok (.getfield 54, 3) := by decide +kernel
theorem d_p15m31_376 : decode prog_15_method_31_code 376 = .ok (.bipush 60, 2) := by decide +kernel
theorem d_p15m31_378 : decode prog_15_method_31_code 378 = .ok (.iload 7, 2) := by decide +kernel
theorem d_p15m31_380 : decode prog_15_method_31_code 380 = .ok (.imul, 1) := by decide +kernel
theorem d_p15m31_381 : decode prog_15_method_31_code 381 = .ok (.iload 8, 2) := by decide +kernel
theorem d_p15m31_383 : decode prog_15_method_31_code 383 = .ok (.iadd, 1) := by decide +kernel
theorem d_p15m31_384 : decode prog_15_method_31_code 384 = .ok (.aload_n 0, 1) := by decide +kernel
theorem d_p15m31_385 : decode prog_15_method_31_code 385 = .ok (.getfield 7, 3) := by decide +kernel
theorem d_p15m31_388 : decode prog_15_method_31_code 388 = .ok (.aload_n 0, 1) := by decide +kernel
theorem d_p15m31_389 : decode prog_15_method_31_code 389 = .ok (.getfield 13, 3) := by decide +kernel
theorem d_p15m31_392 : decode prog_15_method_31_code 392 = .ok (.iconst 2, 1) := by decide +kernel
theorem d_p15m31_393 : decode prog_15_method_31_code 393 = .ok (.iaload, 1) := by decide +kernel
theorem d_p15m31_394 : decode prog_15_method_31_code 394 = .ok (.iload 8, 2) := by decide +kernel
theorem d_p15m31_396 : decode prog_15_method_31_code 396 = .ok (.iadd, 1) := by decide +kernel
theorem d_p15m31_397 : decode prog_15_method_31_code 397 = .ok (.iaload, 1) := by decide +kernel
theorem d_p15m31_398 : decode prog_15_method_31_code 398 = .ok (.iastore, 1) := by decide +kernel
theorem d_p15m31_399 : decode prog_15_method_31_code 399 = .ok (.iinc 8 1, 3) := by decide +kernel
theorem d_p15m31_402 : decode prog_15_method_31_code 402 = .ok (.goto (-42), 3) := by decide +kernel
theorem d_p15m31_405 : decode prog_15_method_31_code 405 = .ok (.aload_n 0, 1) := by decide +kernel
theorem d_p15m31_406 : decode prog_15_method_31_code 406 = .ok (.dup, 1) := by decide +kernel
theorem d_p15m31_407 : decode prog_15_method_31_code 407 = .ok (.getfield 148, 3) := by decide +kernel
theorem d_p15m31_410 : decode prog_15_method_31_code 410 = .ok (.iconst 1, 1) := by decide +kernel
theorem d_p15m31_411 : decode prog_15_method_31_code 411 = .ok (.iadd, 1) := by decide +kernel
theorem d_p15m31_412 : decode prog_15_method_31_code 412 = .ok (.putfield 148, 3) := by decide +kernel
theorem d_p15m31_415 : decode prog_15_method_31_code 415 = .ok (.iload 7, 2) := by decide +kernel
theorem d_p15m31_417 : decode prog_15_method_31_code 417 = .ok (.ireturn, 1) := by decide +kernel
abbrev y_Mod_addF : MethodName := ⟨"PolicyDeskModel", "add", "(IZ)I"⟩
theorem ok_Mod_addF : pd_ok y_Mod_addF prog_15_method_31_code 9 (some .int) 2 := ⟨mT_1337, mT_21, by decide, by decide +kernel⟩
abbrev rm_Mod_addF : Room := { frames := 6, cells := 0, slots := 0, locals := 134 }
set_option maxHeartbeats 4000000 in
set_option maxRecDepth 100000 in
theorem lp_Mod_addF_360 (l : Launch) (G : pd_G) (h : pd_H) {y : Nat} {ad : Nat → Nat} {fv : Nat → Nat → Int32} {iv : Nat → Int32} {tl : Int64} {cs : List Nat} {n : Nat} {R : Nat → pd_cr} {k : Nat} {M : Nat → pd_mr} {nw : Nat} {sA eA : Nat → Nat} (hMO : pd_MO G h y ad fv iv tl) (hL : gm_L fv iv cs) (hC : gm_C fv iv n R) (hM : gm_M fv iv n k M) (hW : gm_W fv cs nw sA eA) (hw2 : tx_sub cs (sA 2) (eA 2) = gr_w cs 2) (hbda : gm_mem cs (sA 1) (eA 1) = true → tx_sub cs (sA 1) (gm_name cs (sA 1) (eA 1)) = gr_bd (gr_w cs 1) ∧ tx_sub cs (gm_name cs (sA 1) (eA 1) + 1) (eA 1) = gr_ad (gr_w cs 1)) (hism : gm_type cs (sA 2) (eA 2) = some (eA 2) → gr_ism (gr_w cs 2) = false) (hmk : ∀ t, (if nw = 4 then gm_mk cs (eA 3) (eA 3 - sA 3) (sA 3) 0 else some 0) = some t → t = gr_mk (gr_w cs 3) ∧ t < 4) {p : Program} {e : Env} {s : State} {m : MethodId} {below : List Frame} {meth : Method} {c : Code} (X : pd_B p s m [.ref y, .int (nI nw), .int (nI 0)].toArray meth c G y_Mod_addF.cls prog_15_method_31_code 9 (some .int)) (hmn : meth.name = y_Mod_addF.name) :
    ∀ (kk9 : Nat) (ii : Nat) (jc : Nat) (mm : Nat) (fo5 : Nat → Int32) (fo7 : Nat → Int32) (hh : pd_H), (pd_kx [20, 43, 44, 45, 46, 47, 48, 49] h hh) → (pd_MO G hh y ad (pd_fu (pd_fu (pd_fu (pd_fu (pd_fu (pd_fu (pd_fu fv 13 (upd (fv 13) k (nI jc))) 14 (upd (fv 14) k (nI mm))) 15 fo5) 16 (upd (fv 16) k (nI ((eA 1) - (gm_name cs (sA 1) (eA 1) + 1))))) 17 fo7) 18 (upd (fv 18) k (nI ((eA 2) - (sA 2))))) 19 (upd (fv 19) k (nI 0))) (pd_fu (pd_fu iv 38 (nI (gm_name cs (sA 1) (eA 1)))) 40 (nI (gm_name cs (sA 1) (eA 1) + 1))) tl) → (3 ≤ nw ∧ nw ≤ 4) → (gm_mem cs (sA 1) (eA 1) = true) → (gm_type cs (sA 2) (eA 2) = some (eA 2)) → ((if nw = 4 then gm_mk cs (eA 3) (eA 3 - sA 3) (sA 3) 0 else some 0) = some mm) → (some jc = gr_find R n (tx_sub cs (sA 1) (gm_name cs (sA 1) (eA 1)))) → (none = gr_decl M k jc (tx_sub cs (gm_name cs (sA 1) (eA 1) + 1) (eA 1)) (tx_sub cs (sA 2) (eA 2))) → (jc < n) → (¬ (tx_sub cs (gm_name cs (sA 1) (eA 1) + 1) (eA 1) = [102, 105, 110, 97, 108, 105, 122, 101] ∧ tx_sub cs (sA 2) (eA 2) = [40, 41, 86])) → (k < 24) → (ii ≤ eA 2 - sA 2) → (∀ t, t < eA 1 - (gm_name cs (sA 1) (eA 1) + 1) → fo5 (12 * k + t) = nI (cs.getD (gm_name cs (sA 1) (eA 1) + 1 + t) 0)) → (∀ x, x < 12 * k → fo5 x = fv 15 x) → (∀ t, t < ii → fo7 (60 * k + t) = nI (cs.getD (sA 2 + t) 0)) → (∀ x, x < 60 * k → fo7 x = fv 17 x) → 100 - ii < kk9 → ∀ (H : Heap) (locs : List Loc), pd_w G s H locs hh → ∀ ls : Array Slot, lv_has ls 9 [(8, .int (nI ii)), (7, .int (nI k)), (5, .int (nI (eA 1))), (4, .int (nI jc)), (3, .int (nI mm)), (0, .ref y), (1, .int (nI nw)), (2, .int (nI 0))] → W p l e rm_Mod_addF s m [.ref y, .int (nI nw), .int (nI 0)].toArray below meth c H locs 0 0 (MQ below (pd_Q G Value.int (fun r h1 => (¬ ((3 ≤ nw ∧ nw ≤ 4) ∧ gm_mem cs (sA 1) (eA 1) = true ∧ (gm_type cs (sA 2) (eA 2) = some (eA 2)) ∧ ¬ (if nw = 4 then gm_mk cs (eA 3) (eA 3 - sA 3) (sA 3) 0 else some 0) = none) ∧ r = -1 ∧ pd_kx [20, 43, 44, 45, 46, 47, 48, 49] h h1 ∧ ∃ fv2 iv2, pd_MO G h1 y ad fv2 iv2 tl ∧ gm_fr [13, 14, 15, 16, 17, 18, 19] [20, 38, 40] fv iv fv2 iv2 ∧ gm_M fv2 iv2 n k M) ∨ (((3 ≤ nw ∧ nw ≤ 4) ∧ gm_mem cs (sA 1) (eA 1) = true ∧ (gm_type cs (sA 2) (eA 2) = some (eA 2)) ∧ ¬ (if nw = 4 then gm_mk cs (eA 3) (eA 3 - sA 3) (sA 3) 0 else some 0) = none) ∧ r = (gr_dm n R k M cs).1 ∧ pd_kx [20, 43, 44, 45, 46, 47, 48, 49] h h1 ∧ ∃ fv2 iv2, pd_MO G h1 y ad fv2 iv2 tl ∧ gm_fr [13, 14, 15, 16, 17, 18, 19] [20, 38, 40] fv iv fv2 iv2 ∧ gm_M fv2 iv2 n (gr_dm n R k M cs).2.1 (gr_dm n R k M cs).2.2))) [.ref y, .int (nI nw), .int (nI 0)].toArray s rm_Mod_addF.cells rm_Mod_addF.slots (fun q => G.2.1 ≤ q)) (F0 m 360 ls []) := by
  have hx := X.1
  have hb := X.2.1
  have hz_y := hMO.2.1
  have hy0 : h y = some (20, .inr (10, [.ref (ad 0), .ref (ad 1), .ref (ad 2), .int (iv 3), .int (iv 4), .int (iv 5), .ref (ad 6), .ref (ad 7), .ref (ad 8), .ref (ad 9), .ref (ad 10), .ref (ad 11), .int (iv 12), .ref (ad 13), .ref (ad 14), .ref (ad 15), .ref (ad 16), .ref (ad 17), .ref (ad 18), .ref (ad 19), .int (iv 20), .ref (ad 21), .ref (ad 22), .ref (ad 23), .ref (ad 24), .ref (ad 25), .ref (ad 26), .ref (ad 27), .ref (ad 28), .int (iv 29), .ref (ad 30), .ref (ad 31), .int (iv 32), .int (iv 33), .int (iv 34), .int (iv 35), .long tl, .int (iv 37), .int (iv 38), .int (iv 39), .int (iv 40), .ref (ad 41), .ref (ad 42), .int (iv 43)])) := hMO.1
  have ha0 : h (ad 0) = some (30, .inl (.int, 60, .inl (fv 0))) := (hMO.2.2 0 (by decide)).1
  have ha1 : h (ad 1) = some (31, .inl (.int, 40, .inl (fv 1))) := (hMO.2.2 1 (by decide)).1
  have ha2 : h (ad 2) = some (32, .inl (.int, 40, .inl (fv 2))) := (hMO.2.2 2 (by decide)).1
  have ha13 : h (ad 13) = some (43, .inl (.int, 24, .inl (fv 13))) := (hMO.2.2 13 (by decide)).1
  have ha14 : h (ad 14) = some (44, .inl (.int, 24, .inl (fv 14))) := (hMO.2.2 14 (by decide)).1
  have ha15 : h (ad 15) = some (45, .inl (.int, 288, .inl (fv 15))) := (hMO.2.2 15 (by decide)).1
  have ha16 : h (ad 16) = some (46, .inl (.int, 24, .inl (fv 16))) := (hMO.2.2 16 (by decide)).1
  have ha17 : h (ad 17) = some (47, .inl (.int, 1440, .inl (fv 17))) := (hMO.2.2 17 (by decide)).1
  have ha18 : h (ad 18) = some (48, .inl (.int, 24, .inl (fv 18))) := (hMO.2.2 18 (by decide)).1
  have ha19 : h (ad 19) = some (49, .inl (.boolean, 24, .inl (fv 19))) := (hMO.2.2 19 (by decide)).1
  obtain ⟨hiv3, hln, hl60, hlc⟩ := id hL
  obtain ⟨hiv12, hn2, hn14, hCc⟩ := id hC
  obtain ⟨hiv20, hk24, hMm⟩ := id hM
  have hw31 := hW.1
  intro kk9
  induction kk9 with
  | zero => intros; omega
  | succ kk9 ih =>
    intro ii jc mm fo5 fo7 hh hk2 hMO2 hn34 hmem hc2 hmk9 hfq hgq hjn hnf hk9 hi hf5 hk5 hf7 hk7 hmu H locs w ls hl
    have hz_y := hMO2.2.1
    have hy2 : hh y = some (20, .inr (10, [.ref (ad 0), .ref (ad 1), .ref (ad 2), .int (iv 3), .int (iv 4), .int (iv 5), .ref (ad 6), .ref (ad 7), .ref (ad 8), .ref (ad 9), .ref (ad 10), .ref (ad 11), .int (iv 12), .ref (ad 13), .ref (ad 14), .ref (ad 15), .ref (ad 16), .ref (ad 17), .ref (ad 18), .ref (ad 19), .int (iv 20), .ref (ad 21), .ref (ad 22), .ref (ad 23), .ref (ad 24), .ref (ad 25), .ref (ad 26), .ref (ad 27), .ref (ad 28), .int (iv 29), .ref (ad 30), .ref (ad 31), .int (iv 32), .int (iv 33), .int (iv 34), .int (iv 35), .long tl, .int (iv 37), .int (nI (gm_name cs (sA 1) (eA 1))), .int (iv 39), .int (nI (gm_name cs (sA 1) (eA 1) + 1)), .ref (ad 41), .ref (ad 42), .int (iv 43)])) := hMO2.1
    have ha0 : hh (ad 0) = some (30, .inl (.int, 60, .inl (fv 0))) := (hMO2.2.2 0 (by decide)).1
    have ha1 : hh (ad 1) = some (31, .inl (.int, 40, .inl (fv 1))) := (hMO2.2.2 1 (by decide)).1
    have ha2 : hh (ad 2) = some (32, .inl (.int, 40, .inl (fv 2))) := (hMO2.2.2 2 (by decide)).1
    have ha13 : hh (ad 13) = some (43, .inl (.int, 24, .inl (upd (fv 13) k (nI jc)))) := (hMO2.2.2 13 (by decide)).1
    have ha14 : hh (ad 14) = some (44, .inl (.int, 24, .inl (upd (fv 14) k (nI mm)))) := (hMO2.2.2 14 (by decide)).1
    have ha15 : hh (ad 15) = some (45, .inl (.int, 288, .inl (fo5))) := (hMO2.2.2 15 (by decide)).1
    have ha16 : hh (ad 16) = some (46, .inl (.int, 24, .inl (upd (fv 16) k (nI ((eA 1) - (gm_name cs (sA 1) (eA 1) + 1)))))) := (hMO2.2.2 16 (by decide)).1
    have ha17 : hh (ad 17) = some (47, .inl (.int, 1440, .inl (fo7))) := (hMO2.2.2 17 (by decide)).1
    have ha18 : hh (ad 18) = some (48, .inl (.int, 24, .inl (upd (fv 18) k (nI ((eA 2) - (sA 2)))))) := (hMO2.2.2 18 (by decide)).1
    have ha19 : hh (ad 19) = some (49, .inl (.boolean, 24, .inl (upd (fv 19) k (nI 0)))) := (hMO2.2.2 19 (by decide)).1
    have hmb := of_decide_eq_true hmem
    have hwl2 := (hW.2 2 (by omega)).2.2
    have hwl1 := (hW.2 1 (by omega)).2.2
    have hmm := (hmk mm hmk9)
    refine lv_iload hx hb d_p15m31_360 (lv_at hl 0 rfl) ?_
    refine lv_aload_n hx hb d_p15m31_362 rfl (lv_at hl 5 rfl) ?_
    refine pd_get X w hy2 rfl 18 (by decide) mT_1157 rfl rfl d_p15m31_363 ?_
    refine lv_iload hx hb d_p15m31_366 (lv_at hl 1 rfl) ?_
    refine pd_iald X w ha18 (by omega) (by omega) d_p15m31_368 ?_
    refine pd_top (v' := .int (nI ((eA 2) - (sA 2)))) (by rw [pk_us]) ?_
    refine pd_jge (tgt := 405) hx hb d_p15m31_369 (by decide) (by omega) (by omega) (fun q1 => ?_) (fun q1 => ?_)
    · -- taken: 405
      refine lv_aload_n hx hb d_p15m31_405 rfl (lv_at hl 5 rfl) ?_
      refine lv_dup hx hb d_p15m31_406 rfl ?_
      refine pd_get X w hy2 rfl 20 (by decide) mT_1159 rfl rfl d_p15m31_407 ?_
      refine pd_top (v' := .int (nI k)) (congrArg Value.int hiv20) ?_
      refine lv_iconst (v := nI 1) hx hb d_p15m31_410 (by decide) ?_
      refine pd_iadd hx hb d_p15m31_411 ?_
      refine pd_put (ty := .int) X w hy2 hz_y rfl 20 (by decide) mT_1159 rfl rfl (by decide +kernel) rfl rfl (Nat.le_of_ble_eq_true rfl) d_p15m31_412 (fun H locs w => ?_)
      have w : pd_w G s H locs (pd_up hh y (20, .inr (10, [.ref (ad 0), .ref (ad 1), .ref (ad 2), .int (iv 3), .int (iv 4), .int (iv 5), .ref (ad 6), .ref (ad 7), .ref (ad 8), .ref (ad 9), .ref (ad 10), .ref (ad 11), .int (iv 12), .ref (ad 13), .ref (ad 14), .ref (ad 15), .ref (ad 16), .ref (ad 17), .ref (ad 18), .ref (ad 19), .int (nI (k + 1)), .ref (ad 21), .ref (ad 22), .ref (ad 23), .ref (ad 24), .ref (ad 25), .ref (ad 26), .ref (ad 27), .ref (ad 28), .int (iv 29), .ref (ad 30), .ref (ad 31), .int (iv 32), .int (iv 33), .int (iv 34), .int (iv 35), .long tl, .int (iv 37), .int (nI (gm_name cs (sA 1) (eA 1))), .int (iv 39), .int (nI (gm_name cs (sA 1) (eA 1) + 1)), .ref (ad 41), .ref (ad 42), .int (iv 43)]))) := w
      obtain ⟨h2, u5⟩ : ∃ z, z = pd_up hh y (20, .inr (10, [.ref (ad 0), .ref (ad 1), .ref (ad 2), .int (iv 3), .int (iv 4), .int (iv 5), .ref (ad 6), .ref (ad 7), .ref (ad 8), .ref (ad 9), .ref (ad 10), .ref (ad 11), .int (iv 12), .ref (ad 13), .ref (ad 14), .ref (ad 15), .ref (ad 16), .ref (ad 17), .ref (ad 18), .ref (ad 19), .int (nI (k + 1)), .ref (ad 21), .ref (ad 22), .ref (ad 23), .ref (ad 24), .ref (ad 25), .ref (ad 26), .ref (ad 27), .ref (ad 28), .int (iv 29), .ref (ad 30), .ref (ad 31), .int (iv 32), .int (iv 33), .int (iv 34), .int (iv 35), .long tl, .int (iv 37), .int (nI (gm_name cs (sA 1) (eA 1))), .int (iv 39), .int (nI (gm_name cs (sA 1) (eA 1) + 1)), .ref (ad 41), .ref (ad 42), .int (iv 43)])) := ⟨_, rfl⟩
      rw [← u5] at w
      have k3 : pd_kq y hh h2 := by rw [u5]; exact pd_up_kq
      have f4 : h2 y = some (20, .inr (10, [.ref (ad 0), .ref (ad 1), .ref (ad 2), .int (iv 3), .int (iv 4), .int (iv 5), .ref (ad 6), .ref (ad 7), .ref (ad 8), .ref (ad 9), .ref (ad 10), .ref (ad 11), .int (iv 12), .ref (ad 13), .ref (ad 14), .ref (ad 15), .ref (ad 16), .ref (ad 17), .ref (ad 18), .ref (ad 19), .int (nI (k + 1)), .ref (ad 21), .ref (ad 22), .ref (ad 23), .ref (ad 24), .ref (ad 25), .ref (ad 26), .ref (ad 27), .ref (ad 28), .int (iv 29), .ref (ad 30), .ref (ad 31), .int (iv 32), .int (iv 33), .int (iv 34), .int (iv 35), .long tl, .int (iv 37), .int (nI (gm_name cs (sA 1) (eA 1))), .int (iv 39), .int (nI (gm_name cs (sA 1) (eA 1) + 1)), .ref (ad 41), .ref (ad 42), .int (iv 43)])) := by rw [u5]; exact pd_up_s _ _ _
      have f6 := k3 _ _ (pd_ne ha0 hy2 (by simp)) ha0
      have f7 := k3 _ _ (pd_ne ha1 hy2 (by simp)) ha1
      have f8 := k3 _ _ (pd_ne ha2 hy2 (by simp)) ha2
      have f9 := k3 _ _ (pd_ne ha13 hy2 (by simp)) ha13
      have f10 := k3 _ _ (pd_ne ha14 hy2 (by simp)) ha14
      have f11 := k3 _ _ (pd_ne ha15 hy2 (by simp)) ha15
      have f12 := k3 _ _ (pd_ne ha16 hy2 (by simp)) ha16
      have f13 := k3 _ _ (pd_ne ha17 hy2 (by simp)) ha17
      have f14 := k3 _ _ (pd_ne ha18 hy2 (by simp)) ha18
      have f15 := k3 _ _ (pd_ne ha19 hy2 (by simp)) ha19
      refine lv_iload hx hb d_p15m31_415 (lv_at hl 1 rfl) ?_
      have hg : gr_dm n R k M cs = (nI k, k + 1, pd_fu M k (jc, tx_sub cs (gm_name cs (sA 1) (eA 1) + 1) (eA 1), tx_sub cs (sA 2) (eA 2), mm)) := by unfold gr_dm; simp only [← (hbda hmem).1, ← (hbda hmem).2, ← hw2, hfq.symm, hgq.symm]; rw [if_neg hnf, gr_madd_y hk9, ← hmm.1]
      have mo16 : pd_MO G h2 y ad (pd_fu (pd_fu (pd_fu (pd_fu (pd_fu (pd_fu (pd_fu fv 13 (upd (fv 13) k (nI jc))) 14 (upd (fv 14) k (nI mm))) 15 fo5) 16 (upd (fv 16) k (nI ((eA 1) - (gm_name cs (sA 1) (eA 1) + 1))))) 17 fo7) 18 (upd (fv 18) k (nI ((eA 2) - (sA 2))))) 19 (upd (fv 19) k (nI 0))) (pd_fu (pd_fu (pd_fu iv 38 (nI (gm_name cs (sA 1) (eA 1)))) 40 (nI (gm_name cs (sA 1) (eA 1) + 1))) 20 (nI (k + 1))) tl := pd_MO.of (ts := [20]) hMO2 (pd_kq.kx (k3) hy2) f4 (fun j hj => Or.inr ⟨fun z => by first | (simp at z; done) | (simp at z; omega), rfl⟩)
      exact pd_iret (v := (nI k)) X w (Or.inr ⟨⟨hn34, hmem, hc2, by rw [hmk9]; simp⟩, by rw [hg], hk2.tr (pd_kx.mono (us := [20, 43, 44, 45, 46, 47, 48, 49]) (pd_kq.kx (k3) hy2) (by simp)), _, _, mo16, ⟨fun j hj => by simp at hj; simp [pd_fu, hj], fun j hj => by simp at hj; simp [pd_fu, hj]⟩, (by rw [hg]; exact gm_M_add hM hk9 rfl rfl hjn rfl hmm.2 (by rw [tx_sub_len (by omega)]; rfl) (by rw [tx_sub_len (by omega)]; omega) (tx_sub_lt hlc) (fun t ht => by rw [tx_sub_len (by omega)] at ht; rw [tx_sub_get ht]; exact hf5 t ht) hk5 (by rw [tx_sub_len (by omega)]; rfl) (by rw [tx_sub_len (by omega)]; omega) (tx_sub_lt hlc) (fun t ht => by rw [tx_sub_len (by omega)] at ht; rw [tx_sub_get ht]; exact hf7 t (by omega)) hk7 (by rw [hw2, hism hc2]; rfl))⟩) (by decide) (by decide) d_p15m31_417
    · -- not taken: 372
      refine lv_aload_n hx hb d_p15m31_372 rfl (lv_at hl 5 rfl) ?_
      refine pd_get X w hy2 rfl 17 (by decide) mT_1156 rfl rfl d_p15m31_373 ?_
      refine lv_bipush (v := nI 60) hx hb d_p15m31_376 (by decide) ?_
      refine lv_iload hx hb d_p15m31_378 (lv_at hl 1 rfl) ?_
      refine pd_imul hx hb d_p15m31_380 ?_
      refine lv_iload hx hb d_p15m31_381 (lv_at hl 0 rfl) ?_
      refine pd_iadd hx hb d_p15m31_383 ?_
      refine lv_aload_n hx hb d_p15m31_384 rfl (lv_at hl 5 rfl) ?_
      refine pd_get X w hy2 rfl 0 (by decide) mT_1139 rfl rfl d_p15m31_385 ?_
      refine lv_aload_n hx hb d_p15m31_388 rfl (lv_at hl 5 rfl) ?_
      refine pd_get X w hy2 rfl 1 (by decide) mT_1140 rfl rfl d_p15m31_389 ?_
      refine lv_iconst (v := nI 2) hx hb d_p15m31_392 (by decide) ?_
      refine pd_iald X w ha1 (by omega) (by omega) d_p15m31_393 ?_
      refine pd_top (v' := .int (nI (sA 2))) (congrArg Value.int (hW.2 2 (by omega)).1) ?_
      refine lv_iload hx hb d_p15m31_394 (lv_at hl 0 rfl) ?_
      refine pd_iadd hx hb d_p15m31_396 ?_
      refine pd_iald X w ha0 (by omega) (by omega) d_p15m31_397 ?_
      refine pd_top (v' := .int (nI (cs.getD ((sA 2) + ii) 0))) (congrArg Value.int (hln _ (by omega))) ?_
      have := tx_lt hlc ((sA 2) + ii)
      refine pd_iast X w ha17 (hMO.2.2 17 (by decide)).2 (by omega) (by omega) d_p15m31_398 (fun H locs w => ?_)
      have w : pd_w G s H locs (pd_up hh (ad 17) (47, .inl (.int, 1440, .inl (upd fo7 ((60 * k) + ii) (nI (cs.getD ((sA 2) + ii) 0)))))) := w
      obtain ⟨h17, u20⟩ : ∃ z, z = pd_up hh (ad 17) (47, .inl (.int, 1440, .inl (upd fo7 ((60 * k) + ii) (nI (cs.getD ((sA 2) + ii) 0))))) := ⟨_, rfl⟩
      rw [← u20] at w
      have k18 : pd_kq (ad 17) hh h17 := by rw [u20]; exact pd_up_kq
      have f19 : h17 (ad 17) = some (47, .inl (.int, 1440, .inl (upd fo7 ((60 * k) + ii) (nI (cs.getD ((sA 2) + ii) 0))))) := by rw [u20]; exact pd_up_s _ _ _
      have f21 := k18 _ _ (pd_ne hy2 ha17 (by simp)) hy2
      have f22 := k18 _ _ (pd_ne ha0 ha17 (by simp)) ha0
      have f23 := k18 _ _ (pd_ne ha1 ha17 (by simp)) ha1
      have f24 := k18 _ _ (pd_ne ha2 ha17 (by simp)) ha2
      have f25 := k18 _ _ (pd_ne ha13 ha17 (by simp)) ha13
      have f26 := k18 _ _ (pd_ne ha14 ha17 (by simp)) ha14
      have f27 := k18 _ _ (pd_ne ha15 ha17 (by simp)) ha15
      have f28 := k18 _ _ (pd_ne ha16 ha17 (by simp)) ha16
      have f29 := k18 _ _ (pd_ne ha18 ha17 (by simp)) ha18
      have f30 := k18 _ _ (pd_ne ha19 ha17 (by simp)) ha19
      refine pd_iinc (k := 0) (d := 1) (lv' := [(8, .int (nI (ii + 1))), (7, .int (nI k)), (5, .int (nI (eA 1))), (4, .int (nI jc)), (3, .int (nI mm)), (0, .ref y), (1, .int (nI nw)), (2, .int (nI 0))]) hx hb d_p15m31_399 (by decide) hl rfl (by decide) rfl (fun ls hl => ?_)
      refine lv_goto (tgt := 360) hx hb d_p15m31_402 (by decide) ?_
      have mo31 : pd_MO G h17 y ad (pd_fu (pd_fu (pd_fu (pd_fu (pd_fu (pd_fu (pd_fu (pd_fu fv 13 (upd (fv 13) k (nI jc))) 14 (upd (fv 14) k (nI mm))) 15 fo5) 16 (upd (fv 16) k (nI ((eA 1) - (gm_name cs (sA 1) (eA 1) + 1))))) 17 fo7) 18 (upd (fv 18) k (nI ((eA 2) - (sA 2))))) 19 (upd (fv 19) k (nI 0))) 17 (upd fo7 ((60 * k) + ii) (nI (cs.getD ((sA 2) + ii) 0)))) (pd_fu (pd_fu iv 38 (nI (gm_name cs (sA 1) (eA 1)))) 40 (nI (gm_name cs (sA 1) (eA 1) + 1))) tl := pd_MO.of (ts := [47]) hMO2 (pd_kq.kx (k18) ha17) f21 (fun j hj => if e17 : j = 17 then by subst e17; exact Or.inl f19 else Or.inr ⟨fun z => by first | (simp at z; done) | (simp at z; omega), by rw [pd_fu_n e17]⟩)
      exact ih (ii + 1) jc mm fo5 (upd fo7 ((60 * k) + ii) (nI (cs.getD ((sA 2) + ii) 0))) h17 (hk2.tr (pd_kx.mono (us := [20, 43, 44, 45, 46, 47, 48, 49]) (pd_kq.kx (k18) ha17) (by simp))) ((pd_MO.ext (fv2 := pd_fu (pd_fu (pd_fu (pd_fu (pd_fu (pd_fu (pd_fu fv 13 (upd (fv 13) k (nI jc))) 14 (upd (fv 14) k (nI mm))) 15 fo5) 16 (upd (fv 16) k (nI ((eA 1) - (gm_name cs (sA 1) (eA 1) + 1))))) 17 (upd fo7 ((60 * k) + ii) (nI (cs.getD ((sA 2) + ii) 0)))) 18 (upd (fv 18) k (nI ((eA 2) - (sA 2))))) 19 (upd (fv 19) k (nI 0))) (iv2 := pd_fu (pd_fu iv 38 (nI (gm_name cs (sA 1) (eA 1)))) 40 (nI (gm_name cs (sA 1) (eA 1) + 1))) mo31 (fun j9 hj9 => by by_cases e913 : j9 = 13; subst e913; rfl; by_cases e914 : j9 = 14; subst e914; rfl; by_cases e915 : j9 = 15; subst e915; rfl; by_cases e916 : j9 = 16; subst e916; rfl; by_cases e917 : j9 = 17; subst e917; rfl; by_cases e918 : j9 = 18; subst e918; rfl; by_cases e919 : j9 = 19; subst e919; rfl; simp only [pd_fu, if_neg e913, if_neg e914, if_neg e915, if_neg e916, if_neg e917, if_neg e918, if_neg e919]) rfl)) (hn34) (hmem) (hc2) (hmk9) (hfq) (hgq) (by omega) (hnf) (by omega) (by omega) (hf5) (hk5) (fun t ht => by by_cases e9 : t = ii; subst e9; rw [pk_us]; rw [pk_un (by omega)]; exact hf7 t (by omega)) (fun x hx => by rw [pk_un (by omega)]; exact hk7 x hx) (by omega) _ _ w ls (lv_sub hl [0, 1, 2, 3, 4, 5, 6, 7] rfl)
set_option maxHeartbeats 4000000 in
set_option maxRecDepth 100000 in
theorem lp_Mod_addF_294 (l : Launch) (G : pd_G) (h : pd_H) {y : Nat} {ad : Nat → Nat} {fv : Nat → Nat → Int32} {iv : Nat → Int32} {tl : Int64} {cs : List Nat} {n : Nat} {R : Nat → pd_cr} {k : Nat} {M : Nat → pd_mr} {nw : Nat} {sA eA : Nat → Nat} (hMO : pd_MO G h y ad fv iv tl) (hL : gm_L fv iv cs) (hC : gm_C fv iv n R) (hM : gm_M fv iv n k M) (hW : gm_W fv cs nw sA eA) (hw2 : tx_sub cs (sA 2) (eA 2) = gr_w cs 2) (hbda : gm_mem cs (sA 1) (eA 1) = true → tx_sub cs (sA 1) (gm_name cs (sA 1) (eA 1)) = gr_bd (gr_w cs 1) ∧ tx_sub cs (gm_name cs (sA 1) (eA 1) + 1) (eA 1) = gr_ad (gr_w cs 1)) (hism : gm_type cs (sA 2) (eA 2) = some (eA 2) → gr_ism (gr_w cs 2) = false) (hmk : ∀ t, (if nw = 4 then gm_mk cs (eA 3) (eA 3 - sA 3) (sA 3) 0 else some 0) = some t → t = gr_mk (gr_w cs 3) ∧ t < 4) {p : Program} {e : Env} {s : State} {m : MethodId} {below : List Frame} {meth : Method} {c : Code} (X : pd_B p s m [.ref y, .int (nI nw), .int (nI 0)].toArray meth c G y_Mod_addF.cls prog_15_method_31_code 9 (some .int)) (hmn : meth.name = y_Mod_addF.name) :
    ∀ (kk9 : Nat) (ii : Nat) (jc : Nat) (mm : Nat) (fo5 : Nat → Int32) (hh : pd_H), (pd_kx [20, 43, 44, 45, 46, 47, 48, 49] h hh) → (pd_MO G hh y ad (pd_fu (pd_fu (pd_fu (pd_fu (pd_fu fv 13 (upd (fv 13) k (nI jc))) 14 (upd (fv 14) k (nI mm))) 15 fo5) 16 (upd (fv 16) k (nI ((eA 1) - (gm_name cs (sA 1) (eA 1) + 1))))) 19 (upd (fv 19) k (nI 0))) (pd_fu (pd_fu iv 38 (nI (gm_name cs (sA 1) (eA 1)))) 40 (nI (gm_name cs (sA 1) (eA 1) + 1))) tl) → (3 ≤ nw ∧ nw ≤ 4) → (gm_mem cs (sA 1) (eA 1) = true) → (gm_type cs (sA 2) (eA 2) = some (eA 2)) → ((if nw = 4 then gm_mk cs (eA 3) (eA 3 - sA 3) (sA 3) 0 else some 0) = some mm) → (some jc = gr_find R n (tx_sub cs (sA 1) (gm_name cs (sA 1) (eA 1)))) → (none = gr_decl M k jc (tx_sub cs (gm_name cs (sA 1) (eA 1) + 1) (eA 1)) (tx_sub cs (sA 2) (eA 2))) → (jc < n) → (¬ (tx_sub cs (gm_name cs (sA 1) (eA 1) + 1) (eA 1) = [102, 105, 110, 97, 108, 105, 122, 101] ∧ tx_sub cs (sA 2) (eA 2) = [40, 41, 86])) → (k < 24) → (ii ≤ eA 1 - (gm_name cs (sA 1) (eA 1) + 1)) → (∀ t, t < ii → fo5 (12 * k + t) = nI (cs.getD (gm_name cs (sA 1) (eA 1) + 1 + t) 0)) → (∀ x, x < 12 * k → fo5 x = fv 15 x) → 100 - ii < kk9 → ∀ (H : Heap) (locs : List Loc), pd_w G s H locs hh → ∀ ls : Array Slot, lv_has ls 9 [(8, .int (nI ii)), (7, .int (nI k)), (5, .int (nI (eA 1))), (4, .int (nI jc)), (3, .int (nI mm)), (0, .ref y), (1, .int (nI nw)), (2, .int (nI 0))] → W p l e rm_Mod_addF s m [.ref y, .int (nI nw), .int (nI 0)].toArray below meth c H locs 0 0 (MQ below (pd_Q G Value.int (fun r h1 => (¬ ((3 ≤ nw ∧ nw ≤ 4) ∧ gm_mem cs (sA 1) (eA 1) = true ∧ (gm_type cs (sA 2) (eA 2) = some (eA 2)) ∧ ¬ (if nw = 4 then gm_mk cs (eA 3) (eA 3 - sA 3) (sA 3) 0 else some 0) = none) ∧ r = -1 ∧ pd_kx [20, 43, 44, 45, 46, 47, 48, 49] h h1 ∧ ∃ fv2 iv2, pd_MO G h1 y ad fv2 iv2 tl ∧ gm_fr [13, 14, 15, 16, 17, 18, 19] [20, 38, 40] fv iv fv2 iv2 ∧ gm_M fv2 iv2 n k M) ∨ (((3 ≤ nw ∧ nw ≤ 4) ∧ gm_mem cs (sA 1) (eA 1) = true ∧ (gm_type cs (sA 2) (eA 2) = some (eA 2)) ∧ ¬ (if nw = 4 then gm_mk cs (eA 3) (eA 3 - sA 3) (sA 3) 0 else some 0) = none) ∧ r = (gr_dm n R k M cs).1 ∧ pd_kx [20, 43, 44, 45, 46, 47, 48, 49] h h1 ∧ ∃ fv2 iv2, pd_MO G h1 y ad fv2 iv2 tl ∧ gm_fr [13, 14, 15, 16, 17, 18, 19] [20, 38, 40] fv iv fv2 iv2 ∧ gm_M fv2 iv2 n (gr_dm n R k M cs).2.1 (gr_dm n R k M cs).2.2))) [.ref y, .int (nI nw), .int (nI 0)].toArray s rm_Mod_addF.cells rm_Mod_addF.slots (fun q => G.2.1 ≤ q)) (F0 m 294 ls []) := by
  have hx := X.1
  have hb := X.2.1
  have hz_y := hMO.2.1
  have hy0 : h y = some (20, .inr (10, [.ref (ad 0), .ref (ad 1), .ref (ad 2), .int (iv 3), .int (iv 4), .int (iv 5), .ref (ad 6), .ref (ad 7), .ref (ad 8), .ref (ad 9), .ref (ad 10), .ref (ad 11), .int (iv 12), .ref (ad 13), .ref (ad 14), .ref (ad 15), .ref (ad 16), .ref (ad 17), .ref (ad 18), .ref (ad 19), .int (iv 20), .ref (ad 21), .ref (ad 22), .ref (ad 23), .ref (ad 24), .ref (ad 25), .ref (ad 26), .ref (ad 27), .ref (ad 28), .int (iv 29), .ref (ad 30), .ref (ad 31), .int (iv 32), .int (iv 33), .int (iv 34), .int (iv 35), .long tl, .int (iv 37), .int (iv 38), .int (iv 39), .int (iv 40), .ref (ad 41), .ref (ad 42), .int (iv 43)])) := hMO.1
  have ha0 : h (ad 0) = some (30, .inl (.int, 60, .inl (fv 0))) := (hMO.2.2 0 (by decide)).1
  have ha1 : h (ad 1) = some (31, .inl (.int, 40, .inl (fv 1))) := (hMO.2.2 1 (by decide)).1
  have ha2 : h (ad 2) = some (32, .inl (.int, 40, .inl (fv 2))) := (hMO.2.2 2 (by decide)).1
  have ha13 : h (ad 13) = some (43, .inl (.int, 24, .inl (fv 13))) := (hMO.2.2 13 (by decide)).1
  have ha14 : h (ad 14) = some (44, .inl (.int, 24, .inl (fv 14))) := (hMO.2.2 14 (by decide)).1
  have ha15 : h (ad 15) = some (45, .inl (.int, 288, .inl (fv 15))) := (hMO.2.2 15 (by decide)).1
  have ha16 : h (ad 16) = some (46, .inl (.int, 24, .inl (fv 16))) := (hMO.2.2 16 (by decide)).1
  have ha17 : h (ad 17) = some (47, .inl (.int, 1440, .inl (fv 17))) := (hMO.2.2 17 (by decide)).1
  have ha18 : h (ad 18) = some (48, .inl (.int, 24, .inl (fv 18))) := (hMO.2.2 18 (by decide)).1
  have ha19 : h (ad 19) = some (49, .inl (.boolean, 24, .inl (fv 19))) := (hMO.2.2 19 (by decide)).1
  obtain ⟨hiv3, hln, hl60, hlc⟩ := id hL
  obtain ⟨hiv12, hn2, hn14, hCc⟩ := id hC
  obtain ⟨hiv20, hk24, hMm⟩ := id hM
  have hw31 := hW.1
  intro kk9
  induction kk9 with
  | zero => intros; omega
  | succ kk9 ih =>
    intro ii jc mm fo5 hh hk2 hMO2 hn34 hmem hc2 hmk9 hfq hgq hjn hnf hk9 hi hf5 hk5 hmu H locs w ls hl
    have hz_y := hMO2.2.1
    have hy2 : hh y = some (20, .inr (10, [.ref (ad 0), .ref (ad 1), .ref (ad 2), .int (iv 3), .int (iv 4), .int (iv 5), .ref (ad 6), .ref (ad 7), .ref (ad 8), .ref (ad 9), .ref (ad 10), .ref (ad 11), .int (iv 12), .ref (ad 13), .ref (ad 14), .ref (ad 15), .ref (ad 16), .ref (ad 17), .ref (ad 18), .ref (ad 19), .int (iv 20), .ref (ad 21), .ref (ad 22), .ref (ad 23), .ref (ad 24), .ref (ad 25), .ref (ad 26), .ref (ad 27), .ref (ad 28), .int (iv 29), .ref (ad 30), .ref (ad 31), .int (iv 32), .int (iv 33), .int (iv 34), .int (iv 35), .long tl, .int (iv 37), .int (nI (gm_name cs (sA 1) (eA 1))), .int (iv 39), .int (nI (gm_name cs (sA 1) (eA 1) + 1)), .ref (ad 41), .ref (ad 42), .int (iv 43)])) := hMO2.1
    have ha0 : hh (ad 0) = some (30, .inl (.int, 60, .inl (fv 0))) := (hMO2.2.2 0 (by decide)).1
    have ha1 : hh (ad 1) = some (31, .inl (.int, 40, .inl (fv 1))) := (hMO2.2.2 1 (by decide)).1
    have ha2 : hh (ad 2) = some (32, .inl (.int, 40, .inl (fv 2))) := (hMO2.2.2 2 (by decide)).1
    have ha13 : hh (ad 13) = some (43, .inl (.int, 24, .inl (upd (fv 13) k (nI jc)))) := (hMO2.2.2 13 (by decide)).1
    have ha14 : hh (ad 14) = some (44, .inl (.int, 24, .inl (upd (fv 14) k (nI mm)))) := (hMO2.2.2 14 (by decide)).1
    have ha15 : hh (ad 15) = some (45, .inl (.int, 288, .inl (fo5))) := (hMO2.2.2 15 (by decide)).1
    have ha16 : hh (ad 16) = some (46, .inl (.int, 24, .inl (upd (fv 16) k (nI ((eA 1) - (gm_name cs (sA 1) (eA 1) + 1)))))) := (hMO2.2.2 16 (by decide)).1
    have ha17 : hh (ad 17) = some (47, .inl (.int, 1440, .inl (fv 17))) := (hMO2.2.2 17 (by decide)).1
    have ha18 : hh (ad 18) = some (48, .inl (.int, 24, .inl (fv 18))) := (hMO2.2.2 18 (by decide)).1
    have ha19 : hh (ad 19) = some (49, .inl (.boolean, 24, .inl (upd (fv 19) k (nI 0)))) := (hMO2.2.2 19 (by decide)).1
    have hmb := of_decide_eq_true hmem
    have hwl2 := (hW.2 2 (by omega)).2.2
    have hwl1 := (hW.2 1 (by omega)).2.2
    have hmm := (hmk mm hmk9)
    refine lv_iload hx hb d_p15m31_294 (lv_at hl 0 rfl) ?_
    refine lv_aload_n hx hb d_p15m31_296 rfl (lv_at hl 5 rfl) ?_
    refine pd_get X w hy2 rfl 16 (by decide) mT_1155 rfl rfl d_p15m31_297 ?_
    refine lv_iload hx hb d_p15m31_300 (lv_at hl 1 rfl) ?_
    refine pd_iald X w ha16 (by omega) (by omega) d_p15m31_302 ?_
    refine pd_top (v' := .int (nI ((eA 1) - (gm_name cs (sA 1) (eA 1) + 1)))) (by rw [pk_us]) ?_
    refine pd_jge (tgt := 337) hx hb d_p15m31_303 (by decide) (by omega) (by omega) (fun q1 => ?_) (fun q1 => ?_)
    · -- taken: 337
      refine lv_aload_n hx hb d_p15m31_337 rfl (lv_at hl 5 rfl) ?_
      refine pd_get X w hy2 rfl 18 (by decide) mT_1157 rfl rfl d_p15m31_338 ?_
      refine lv_iload hx hb d_p15m31_341 (lv_at hl 1 rfl) ?_
      refine lv_aload_n hx hb d_p15m31_343 rfl (lv_at hl 5 rfl) ?_
      refine pd_get X w hy2 rfl 2 (by decide) mT_1141 rfl rfl d_p15m31_344 ?_
      refine lv_iconst (v := nI 2) hx hb d_p15m31_347 (by decide) ?_
      refine pd_iald X w ha2 (by omega) (by omega) d_p15m31_348 ?_
      refine pd_top (v' := .int (nI (eA 2))) (congrArg Value.int (hW.2 2 (by omega)).2.1) ?_
      refine lv_aload_n hx hb d_p15m31_349 rfl (lv_at hl 5 rfl) ?_
      refine pd_get X w hy2 rfl 1 (by decide) mT_1140 rfl rfl d_p15m31_350 ?_
      refine lv_iconst (v := nI 2) hx hb d_p15m31_353 (by decide) ?_
      refine pd_iald X w ha1 (by omega) (by omega) d_p15m31_354 ?_
      refine pd_top (v' := .int (nI (sA 2))) (congrArg Value.int (hW.2 2 (by omega)).1) ?_
      refine pd_isub hx hb d_p15m31_355 (by omega) ?_
      refine pd_iast X w ha18 (hMO.2.2 18 (by decide)).2 (by omega) (by omega) d_p15m31_356 (fun H locs w => ?_)
      have w : pd_w G s H locs (pd_up hh (ad 18) (48, .inl (.int, 24, .inl (upd (fv 18) k (nI ((eA 2) - (sA 2))))))) := w
      obtain ⟨h2, u5⟩ : ∃ z, z = pd_up hh (ad 18) (48, .inl (.int, 24, .inl (upd (fv 18) k (nI ((eA 2) - (sA 2)))))) := ⟨_, rfl⟩
      rw [← u5] at w
      have k3 : pd_kq (ad 18) hh h2 := by rw [u5]; exact pd_up_kq
      have f4 : h2 (ad 18) = some (48, .inl (.int, 24, .inl (upd (fv 18) k (nI ((eA 2) - (sA 2)))))) := by rw [u5]; exact pd_up_s _ _ _
      have f6 := k3 _ _ (pd_ne hy2 ha18 (by simp)) hy2
      have f7 := k3 _ _ (pd_ne ha0 ha18 (by simp)) ha0
      have f8 := k3 _ _ (pd_ne ha1 ha18 (by simp)) ha1
      have f9 := k3 _ _ (pd_ne ha2 ha18 (by simp)) ha2
      have f10 := k3 _ _ (pd_ne ha13 ha18 (by simp)) ha13
      have f11 := k3 _ _ (pd_ne ha14 ha18 (by simp)) ha14
      have f12 := k3 _ _ (pd_ne ha15 ha18 (by simp)) ha15
      have f13 := k3 _ _ (pd_ne ha16 ha18 (by simp)) ha16
      have f14 := k3 _ _ (pd_ne ha17 ha18 (by simp)) ha17
      have f15 := k3 _ _ (pd_ne ha19 ha18 (by simp)) ha19
      refine lv_iconst (v := nI 0) hx hb d_p15m31_357 (by decide) ?_
      refine lv_istore (lv' := [(8, .int (nI 0)), (7, .int (nI k)), (5, .int (nI (eA 1))), (4, .int (nI jc)), (3, .int (nI mm)), (0, .ref y), (1, .int (nI nw)), (2, .int (nI 0))]) hx hb d_p15m31_358 hl (by decide) rfl (fun ls hl => ?_)
      have mo16 : pd_MO G h2 y ad (pd_fu (pd_fu (pd_fu (pd_fu (pd_fu (pd_fu fv 13 (upd (fv 13) k (nI jc))) 14 (upd (fv 14) k (nI mm))) 15 fo5) 16 (upd (fv 16) k (nI ((eA 1) - (gm_name cs (sA 1) (eA 1) + 1))))) 19 (upd (fv 19) k (nI 0))) 18 (upd (fv 18) k (nI ((eA 2) - (sA 2))))) (pd_fu (pd_fu iv 38 (nI (gm_name cs (sA 1) (eA 1)))) 40 (nI (gm_name cs (sA 1) (eA 1) + 1))) tl := pd_MO.of (ts := [48]) hMO2 (pd_kq.kx (k3) ha18) f6 (fun j hj => if e18 : j = 18 then by subst e18; exact Or.inl f4 else Or.inr ⟨fun z => by first | (simp at z; done) | (simp at z; omega), by rw [pd_fu_n e18]⟩)
      exact lp_Mod_addF_360 l G h hMO hL hC hM hW hw2 hbda hism hmk X hmn (100 + 1) 0 jc mm fo5 (fv 17) h2 (hk2.tr (pd_kx.mono (us := [20, 43, 44, 45, 46, 47, 48, 49]) (pd_kq.kx (k3) ha18) (by simp))) ((pd_MO.ext (fv2 := pd_fu (pd_fu (pd_fu (pd_fu (pd_fu (pd_fu (pd_fu fv 13 (upd (fv 13) k (nI jc))) 14 (upd (fv 14) k (nI mm))) 15 fo5) 16 (upd (fv 16) k (nI ((eA 1) - (gm_name cs (sA 1) (eA 1) + 1))))) 17 (fv 17)) 18 (upd (fv 18) k (nI ((eA 2) - (sA 2))))) 19 (upd (fv 19) k (nI 0))) (iv2 := pd_fu (pd_fu iv 38 (nI (gm_name cs (sA 1) (eA 1)))) 40 (nI (gm_name cs (sA 1) (eA 1) + 1))) mo16 (fun j9 hj9 => by by_cases e913 : j9 = 13; subst e913; rfl; by_cases e914 : j9 = 14; subst e914; rfl; by_cases e915 : j9 = 15; subst e915; rfl; by_cases e916 : j9 = 16; subst e916; rfl; by_cases e917 : j9 = 17; subst e917; rfl; by_cases e918 : j9 = 18; subst e918; rfl; by_cases e919 : j9 = 19; subst e919; rfl; simp only [pd_fu, if_neg e913, if_neg e914, if_neg e915, if_neg e916, if_neg e917, if_neg e918, if_neg e919]) rfl)) (hn34) (hmem) (hc2) (hmk9) (hfq) (hgq) (by omega) (hnf) (by omega) (by omega) (fun t ht => hf5 t (by omega)) (hk5) (fun t ht => absurd ht (Nat.not_lt_zero t)) (fun _ _ => rfl) (by omega) _ _ w ls (lv_sub hl [0, 1, 2, 3, 4, 5, 6, 7] rfl)
    · -- not taken: 306
      refine lv_aload_n hx hb d_p15m31_306 rfl (lv_at hl 5 rfl) ?_
      refine pd_get X w hy2 rfl 15 (by decide) mT_1154 rfl rfl d_p15m31_307 ?_
      refine lv_bipush (v := nI 12) hx hb d_p15m31_310 (by decide) ?_
      refine lv_iload hx hb d_p15m31_312 (lv_at hl 1 rfl) ?_
      refine pd_imul hx hb d_p15m31_314 ?_
      refine lv_iload hx hb d_p15m31_315 (lv_at hl 0 rfl) ?_
      refine pd_iadd hx hb d_p15m31_317 ?_
      refine lv_aload_n hx hb d_p15m31_318 rfl (lv_at hl 5 rfl) ?_
      refine pd_get X w hy2 rfl 0 (by decide) mT_1139 rfl rfl d_p15m31_319 ?_
      refine lv_aload_n hx hb d_p15m31_322 rfl (lv_at hl 5 rfl) ?_
      refine pd_get X w hy2 rfl 40 (by decide) mT_1179 rfl rfl d_p15m31_323 ?_
      refine lv_iload hx hb d_p15m31_326 (lv_at hl 0 rfl) ?_
      refine pd_iadd hx hb d_p15m31_328 ?_
      refine pd_iald X w ha0 (by omega) (by omega) d_p15m31_329 ?_
      refine pd_top (v' := .int (nI (cs.getD ((gm_name cs (sA 1) (eA 1) + 1) + ii) 0))) (congrArg Value.int (hln _ (by omega))) ?_
      have := tx_lt hlc ((gm_name cs (sA 1) (eA 1) + 1) + ii)
      refine pd_iast X w ha15 (hMO.2.2 15 (by decide)).2 (by omega) (by omega) d_p15m31_330 (fun H locs w => ?_)
      have w : pd_w G s H locs (pd_up hh (ad 15) (45, .inl (.int, 288, .inl (upd fo5 ((12 * k) + ii) (nI (cs.getD ((gm_name cs (sA 1) (eA 1) + 1) + ii) 0)))))) := w
      obtain ⟨h17, u20⟩ : ∃ z, z = pd_up hh (ad 15) (45, .inl (.int, 288, .inl (upd fo5 ((12 * k) + ii) (nI (cs.getD ((gm_name cs (sA 1) (eA 1) + 1) + ii) 0))))) := ⟨_, rfl⟩
      rw [← u20] at w
      have k18 : pd_kq (ad 15) hh h17 := by rw [u20]; exact pd_up_kq
      have f19 : h17 (ad 15) = some (45, .inl (.int, 288, .inl (upd fo5 ((12 * k) + ii) (nI (cs.getD ((gm_name cs (sA 1) (eA 1) + 1) + ii) 0))))) := by rw [u20]; exact pd_up_s _ _ _
      have f21 := k18 _ _ (pd_ne hy2 ha15 (by simp)) hy2
      have f22 := k18 _ _ (pd_ne ha0 ha15 (by simp)) ha0
      have f23 := k18 _ _ (pd_ne ha1 ha15 (by simp)) ha1
      have f24 := k18 _ _ (pd_ne ha2 ha15 (by simp)) ha2
      have f25 := k18 _ _ (pd_ne ha13 ha15 (by simp)) ha13
      have f26 := k18 _ _ (pd_ne ha14 ha15 (by simp)) ha14
      have f27 := k18 _ _ (pd_ne ha16 ha15 (by simp)) ha16
      have f28 := k18 _ _ (pd_ne ha17 ha15 (by simp)) ha17
      have f29 := k18 _ _ (pd_ne ha18 ha15 (by simp)) ha18
      have f30 := k18 _ _ (pd_ne ha19 ha15 (by simp)) ha19
      refine pd_iinc (k := 0) (d := 1) (lv' := [(8, .int (nI (ii + 1))), (7, .int (nI k)), (5, .int (nI (eA 1))), (4, .int (nI jc)), (3, .int (nI mm)), (0, .ref y), (1, .int (nI nw)), (2, .int (nI 0))]) hx hb d_p15m31_331 (by decide) hl rfl (by decide) rfl (fun ls hl => ?_)
      refine lv_goto (tgt := 294) hx hb d_p15m31_334 (by decide) ?_
      have mo31 : pd_MO G h17 y ad (pd_fu (pd_fu (pd_fu (pd_fu (pd_fu (pd_fu fv 13 (upd (fv 13) k (nI jc))) 14 (upd (fv 14) k (nI mm))) 15 fo5) 16 (upd (fv 16) k (nI ((eA 1) - (gm_name cs (sA 1) (eA 1) + 1))))) 19 (upd (fv 19) k (nI 0))) 15 (upd fo5 ((12 * k) + ii) (nI (cs.getD ((gm_name cs (sA 1) (eA 1) + 1) + ii) 0)))) (pd_fu (pd_fu iv 38 (nI (gm_name cs (sA 1) (eA 1)))) 40 (nI (gm_name cs (sA 1) (eA 1) + 1))) tl := pd_MO.of (ts := [45]) hMO2 (pd_kq.kx (k18) ha15) f21 (fun j hj => if e15 : j = 15 then by subst e15; exact Or.inl f19 else Or.inr ⟨fun z => by first | (simp at z; done) | (simp at z; omega), by rw [pd_fu_n e15]⟩)
      exact ih (ii + 1) jc mm (upd fo5 ((12 * k) + ii) (nI (cs.getD ((gm_name cs (sA 1) (eA 1) + 1) + ii) 0))) h17 (hk2.tr (pd_kx.mono (us := [20, 43, 44, 45, 46, 47, 48, 49]) (pd_kq.kx (k18) ha15) (by simp))) ((pd_MO.ext (fv2 := pd_fu (pd_fu (pd_fu (pd_fu (pd_fu fv 13 (upd (fv 13) k (nI jc))) 14 (upd (fv 14) k (nI mm))) 15 (upd fo5 ((12 * k) + ii) (nI (cs.getD ((gm_name cs (sA 1) (eA 1) + 1) + ii) 0)))) 16 (upd (fv 16) k (nI ((eA 1) - (gm_name cs (sA 1) (eA 1) + 1))))) 19 (upd (fv 19) k (nI 0))) (iv2 := pd_fu (pd_fu iv 38 (nI (gm_name cs (sA 1) (eA 1)))) 40 (nI (gm_name cs (sA 1) (eA 1) + 1))) mo31 (fun j9 hj9 => by by_cases e913 : j9 = 13; subst e913; rfl; by_cases e914 : j9 = 14; subst e914; rfl; by_cases e915 : j9 = 15; subst e915; rfl; by_cases e916 : j9 = 16; subst e916; rfl; by_cases e919 : j9 = 19; subst e919; rfl; simp only [pd_fu, if_neg e913, if_neg e914, if_neg e915, if_neg e916, if_neg e919]) rfl)) (hn34) (hmem) (hc2) (hmk9) (hfq) (hgq) (by omega) (hnf) (by omega) (by omega) (fun t ht => by by_cases e9 : t = ii; subst e9; rw [pk_us]; rw [pk_un (by omega)]; exact hf5 t (by omega)) (fun x hx => by rw [pk_un (by omega)]; exact hk5 x hx) (by omega) _ _ w ls (lv_sub hl [0, 1, 2, 3, 4, 5, 6, 7] rfl)
set_option maxHeartbeats 4000000 in
set_option maxRecDepth 100000 in
theorem lp_Mod_addF_172 (l : Launch) (G : pd_G) (h : pd_H) {y : Nat} {ad : Nat → Nat} {fv : Nat → Nat → Int32} {iv : Nat → Int32} {tl : Int64} {cs : List Nat} {n : Nat} {R : Nat → pd_cr} {k : Nat} {M : Nat → pd_mr} {nw : Nat} {sA eA : Nat → Nat} (hMO : pd_MO G h y ad fv iv tl) (hL : gm_L fv iv cs) (hC : gm_C fv iv n R) (hM : gm_M fv iv n k M) (hW : gm_W fv cs nw sA eA) (hw2 : tx_sub cs (sA 2) (eA 2) = gr_w cs 2) (hbda : gm_mem cs (sA 1) (eA 1) = true → tx_sub cs (sA 1) (gm_name cs (sA 1) (eA 1)) = gr_bd (gr_w cs 1) ∧ tx_sub cs (gm_name cs (sA 1) (eA 1) + 1) (eA 1) = gr_ad (gr_w cs 1)) (hism : gm_type cs (sA 2) (eA 2) = some (eA 2) → gr_ism (gr_w cs 2) = false) (hmk : ∀ t, (if nw = 4 then gm_mk cs (eA 3) (eA 3 - sA 3) (sA 3) 0 else some 0) = some t → t = gr_mk (gr_w cs 3) ∧ t < 4) {p : Program} {e : Env} {s : State} {m : MethodId} {below : List Frame} {meth : Method} {c : Code} (X : pd_B p s m [.ref y, .int (nI nw), .int (nI 0)].toArray meth c G y_Mod_addF.cls prog_15_method_31_code 9 (some .int)) (hmn : meth.name = y_Mod_addF.name) :
    ∀ (kk9 : Nat) (ii : Nat) (la : Bool) (jc : Nat) (mm : Nat) (hh : pd_H), (pd_kx [20, 43, 44, 45, 46, 47, 48, 49] h hh) → (pd_MO G hh y ad (fv) (pd_fu (pd_fu iv 38 (nI (gm_name cs (sA 1) (eA 1)))) 40 (nI (gm_name cs (sA 1) (eA 1) + 1))) tl) → (3 ≤ nw ∧ nw ≤ 4) → (gm_mem cs (sA 1) (eA 1) = true) → (gm_type cs (sA 2) (eA 2) = some (eA 2)) → ((if nw = 4 then gm_mk cs (eA 3) (eA 3 - sA 3) (sA 3) 0 else some 0) = some mm) → (some jc = gr_find R n (tx_sub cs (sA 1) (gm_name cs (sA 1) (eA 1)))) → (none = gr_decl M k jc (tx_sub cs (gm_name cs (sA 1) (eA 1) + 1) (eA 1)) (tx_sub cs (sA 2) (eA 2))) → (jc < n) → (ii ≤ 8) → (la = true → eA 1 - (gm_name cs (sA 1) (eA 1) + 1) = 8 ∧ tx_sub cs (sA 2) (eA 2) = [40, 41, 86] ∧ ∀ t, t < ii → cs.getD (gm_name cs (sA 1) (eA 1) + 1 + t) 0 = gm_oc 7312272859201431910 t) → (la = false → ¬ (tx_sub cs (gm_name cs (sA 1) (eA 1) + 1) (eA 1) = [102, 105, 110, 97, 108, 105, 122, 101] ∧ tx_sub cs (sA 2) (eA 2) = [40, 41, 86])) → 8 - ii < kk9 → ∀ (H : Heap) (locs : List Loc), pd_w G s H locs hh → ∀ ls : Array Slot, lv_has ls 9 [(7, .int (nI ii)), (6, .int (pd_b la)), (5, .int (nI (eA 1))), (4, .int (nI jc)), (3, .int (nI mm)), (0, .ref y), (1, .int (nI nw)), (2, .int (nI 0))] → W p l e rm_Mod_addF s m [.ref y, .int (nI nw), .int (nI 0)].toArray below meth c H locs 0 0 (MQ below (pd_Q G Value.int (fun r h1 => (¬ ((3 ≤ nw ∧ nw ≤ 4) ∧ gm_mem cs (sA 1) (eA 1) = true ∧ (gm_type cs (sA 2) (eA 2) = some (eA 2)) ∧ ¬ (if nw = 4 then gm_mk cs (eA 3) (eA 3 - sA 3) (sA 3) 0 else some 0) = none) ∧ r = -1 ∧ pd_kx [20, 43, 44, 45, 46, 47, 48, 49] h h1 ∧ ∃ fv2 iv2, pd_MO G h1 y ad fv2 iv2 tl ∧ gm_fr [13, 14, 15, 16, 17, 18, 19] [20, 38, 40] fv iv fv2 iv2 ∧ gm_M fv2 iv2 n k M) ∨ (((3 ≤ nw ∧ nw ≤ 4) ∧ gm_mem cs (sA 1) (eA 1) = true ∧ (gm_type cs (sA 2) (eA 2) = some (eA 2)) ∧ ¬ (if nw = 4 then gm_mk cs (eA 3) (eA 3 - sA 3) (sA 3) 0 else some 0) = none) ∧ r = (gr_dm n R k M cs).1 ∧ pd_kx [20, 43, 44, 45, 46, 47, 48, 49] h h1 ∧ ∃ fv2 iv2, pd_MO G h1 y ad fv2 iv2 tl ∧ gm_fr [13, 14, 15, 16, 17, 18, 19] [20, 38, 40] fv iv fv2 iv2 ∧ gm_M fv2 iv2 n (gr_dm n R k M cs).2.1 (gr_dm n R k M cs).2.2))) [.ref y, .int (nI nw), .int (nI 0)].toArray s rm_Mod_addF.cells rm_Mod_addF.slots (fun q => G.2.1 ≤ q)) (F0 m 172 ls []) := by
  have hx := X.1
  have hb := X.2.1
  have hz_y := hMO.2.1
  have hy0 : h y = some (20, .inr (10, [.ref (ad 0), .ref (ad 1), .ref (ad 2), .int (iv 3), .int (iv 4), .int (iv 5), .ref (ad 6), .ref (ad 7), .ref (ad 8), .ref (ad 9), .ref (ad 10), .ref (ad 11), .int (iv 12), .ref (ad 13), .ref (ad 14), .ref (ad 15), .ref (ad 16), .ref (ad 17), .ref (ad 18), .ref (ad 19), .int (iv 20), .ref (ad 21), .ref (ad 22), .ref (ad 23), .ref (ad 24), .ref (ad 25), .ref (ad 26), .ref (ad 27), .ref (ad 28), .int (iv 29), .ref (ad 30), .ref (ad 31), .int (iv 32), .int (iv 33), .int (iv 34), .int (iv 35), .long tl, .int (iv 37), .int (iv 38), .int (iv 39), .int (iv 40), .ref (ad 41), .ref (ad 42), .int (iv 43)])) := hMO.1
  have ha0 : h (ad 0) = some (30, .inl (.int, 60, .inl (fv 0))) := (hMO.2.2 0 (by decide)).1
  have ha1 : h (ad 1) = some (31, .inl (.int, 40, .inl (fv 1))) := (hMO.2.2 1 (by decide)).1
  have ha2 : h (ad 2) = some (32, .inl (.int, 40, .inl (fv 2))) := (hMO.2.2 2 (by decide)).1
  have ha13 : h (ad 13) = some (43, .inl (.int, 24, .inl (fv 13))) := (hMO.2.2 13 (by decide)).1
  have ha14 : h (ad 14) = some (44, .inl (.int, 24, .inl (fv 14))) := (hMO.2.2 14 (by decide)).1
  have ha15 : h (ad 15) = some (45, .inl (.int, 288, .inl (fv 15))) := (hMO.2.2 15 (by decide)).1
  have ha16 : h (ad 16) = some (46, .inl (.int, 24, .inl (fv 16))) := (hMO.2.2 16 (by decide)).1
  have ha17 : h (ad 17) = some (47, .inl (.int, 1440, .inl (fv 17))) := (hMO.2.2 17 (by decide)).1
  have ha18 : h (ad 18) = some (48, .inl (.int, 24, .inl (fv 18))) := (hMO.2.2 18 (by decide)).1
  have ha19 : h (ad 19) = some (49, .inl (.boolean, 24, .inl (fv 19))) := (hMO.2.2 19 (by decide)).1
  obtain ⟨hiv3, hln, hl60, hlc⟩ := id hL
  obtain ⟨hiv12, hn2, hn14, hCc⟩ := id hC
  obtain ⟨hiv20, hk24, hMm⟩ := id hM
  have hw31 := hW.1
  intro kk9
  induction kk9 with
  | zero => intros; omega
  | succ kk9 ih =>
    intro ii la jc mm hh hk2 hMO2 hn34 hmem hc2 hmk9 hfq hgq hjn hi hsm hns hmu H locs w ls hl
    have hz_y := hMO2.2.1
    have hy2 : hh y = some (20, .inr (10, [.ref (ad 0), .ref (ad 1), .ref (ad 2), .int (iv 3), .int (iv 4), .int (iv 5), .ref (ad 6), .ref (ad 7), .ref (ad 8), .ref (ad 9), .ref (ad 10), .ref (ad 11), .int (iv 12), .ref (ad 13), .ref (ad 14), .ref (ad 15), .ref (ad 16), .ref (ad 17), .ref (ad 18), .ref (ad 19), .int (iv 20), .ref (ad 21), .ref (ad 22), .ref (ad 23), .ref (ad 24), .ref (ad 25), .ref (ad 26), .ref (ad 27), .ref (ad 28), .int (iv 29), .ref (ad 30), .ref (ad 31), .int (iv 32), .int (iv 33), .int (iv 34), .int (iv 35), .long tl, .int (iv 37), .int (nI (gm_name cs (sA 1) (eA 1))), .int (iv 39), .int (nI (gm_name cs (sA 1) (eA 1) + 1)), .ref (ad 41), .ref (ad 42), .int (iv 43)])) := hMO2.1
    have ha0 : hh (ad 0) = some (30, .inl (.int, 60, .inl (fv 0))) := (hMO2.2.2 0 (by decide)).1
    have ha1 : hh (ad 1) = some (31, .inl (.int, 40, .inl (fv 1))) := (hMO2.2.2 1 (by decide)).1
    have ha2 : hh (ad 2) = some (32, .inl (.int, 40, .inl (fv 2))) := (hMO2.2.2 2 (by decide)).1
    have ha13 : hh (ad 13) = some (43, .inl (.int, 24, .inl (fv 13))) := (hMO2.2.2 13 (by decide)).1
    have ha14 : hh (ad 14) = some (44, .inl (.int, 24, .inl (fv 14))) := (hMO2.2.2 14 (by decide)).1
    have ha15 : hh (ad 15) = some (45, .inl (.int, 288, .inl (fv 15))) := (hMO2.2.2 15 (by decide)).1
    have ha16 : hh (ad 16) = some (46, .inl (.int, 24, .inl (fv 16))) := (hMO2.2.2 16 (by decide)).1
    have ha17 : hh (ad 17) = some (47, .inl (.int, 1440, .inl (fv 17))) := (hMO2.2.2 17 (by decide)).1
    have ha18 : hh (ad 18) = some (48, .inl (.int, 24, .inl (fv 18))) := (hMO2.2.2 18 (by decide)).1
    have ha19 : hh (ad 19) = some (49, .inl (.boolean, 24, .inl (fv 19))) := (hMO2.2.2 19 (by decide)).1
    have hmb := of_decide_eq_true hmem
    have hwl2 := (hW.2 2 (by omega)).2.2
    have hwl1 := (hW.2 1 (by omega)).2.2
    have hmm := (hmk mm hmk9)
    refine lv_iload hx hb d_p15m31_172 (lv_at hl 0 rfl) ?_
    refine lv_bipush (v := nI 8) hx hb d_p15m31_174 (by decide) ?_
    refine pd_jge (tgt := 226) hx hb d_p15m31_176 (by decide) (by omega) (by omega) (fun q1 => ?_) (fun q1 => ?_)
    · -- taken: 226
      refine lv_iload hx hb d_p15m31_226 (lv_at hl 1 rfl) ?_
      refine pd_beq (tgt := 234) hx hb d_p15m31_228 (by decide) (fun q2 => ?_) (fun q2 => ?_)
      · -- taken: 234
        refine lv_aload_n hx hb d_p15m31_234 rfl (lv_at hl 5 rfl) ?_
        refine pd_get X w hy2 rfl 20 (by decide) mT_1159 rfl rfl d_p15m31_235 ?_
        refine pd_top (v' := .int (nI k)) (congrArg Value.int hiv20) ?_
        refine lv_bipush (v := nI 24) hx hb d_p15m31_238 (by decide) ?_
        refine pd_jne (tgt := 246) hx hb d_p15m31_240 (by decide) (by omega) (by omega) (fun q3 => ?_) (fun q3 => ?_)
        · -- taken: 246
          refine lv_aload_n hx hb d_p15m31_246 rfl (lv_at hl 5 rfl) ?_
          refine pd_get X w hy2 rfl 20 (by decide) mT_1159 rfl rfl d_p15m31_247 ?_
          refine pd_top (v' := .int (nI k)) (congrArg Value.int hiv20) ?_
          refine lv_istore (lv' := [(7, .int (nI k)), (6, .int (pd_b la)), (5, .int (nI (eA 1))), (4, .int (nI jc)), (3, .int (nI mm)), (0, .ref y), (1, .int (nI nw)), (2, .int (nI 0))]) hx hb d_p15m31_250 hl (by decide) rfl (fun ls hl => ?_)
          refine lv_aload_n hx hb d_p15m31_252 rfl (lv_at hl 5 rfl) ?_
          refine pd_get X w hy2 rfl 13 (by decide) mT_1152 rfl rfl d_p15m31_253 ?_
          refine lv_iload hx hb d_p15m31_256 (lv_at hl 0 rfl) ?_
          refine lv_iload hx hb d_p15m31_258 (lv_at hl 3 rfl) ?_
          refine pd_iast X w ha13 (hMO.2.2 13 (by decide)).2 (by omega) (by omega) d_p15m31_260 (fun H locs w => ?_)
          have w : pd_w G s H locs (pd_up hh (ad 13) (43, .inl (.int, 24, .inl (upd (fv 13) k (nI jc))))) := w
          obtain ⟨h4, u7⟩ : ∃ z, z = pd_up hh (ad 13) (43, .inl (.int, 24, .inl (upd (fv 13) k (nI jc)))) := ⟨_, rfl⟩
          rw [← u7] at w
          have k5 : pd_kq (ad 13) hh h4 := by rw [u7]; exact pd_up_kq
          have f6 : h4 (ad 13) = some (43, .inl (.int, 24, .inl (upd (fv 13) k (nI jc)))) := by rw [u7]; exact pd_up_s _ _ _
          have f8 := k5 _ _ (pd_ne hy2 ha13 (by simp)) hy2
          have f9 := k5 _ _ (pd_ne ha0 ha13 (by simp)) ha0
          have f10 := k5 _ _ (pd_ne ha1 ha13 (by simp)) ha1
          have f11 := k5 _ _ (pd_ne ha2 ha13 (by simp)) ha2
          have f12 := k5 _ _ (pd_ne ha14 ha13 (by simp)) ha14
          have f13 := k5 _ _ (pd_ne ha15 ha13 (by simp)) ha15
          have f14 := k5 _ _ (pd_ne ha16 ha13 (by simp)) ha16
          have f15 := k5 _ _ (pd_ne ha17 ha13 (by simp)) ha17
          have f16 := k5 _ _ (pd_ne ha18 ha13 (by simp)) ha18
          have f17 := k5 _ _ (pd_ne ha19 ha13 (by simp)) ha19
          refine lv_aload_n hx hb d_p15m31_261 rfl (lv_at hl 5 rfl) ?_
          refine pd_get X w f8 rfl 14 (by decide) mT_1153 rfl rfl d_p15m31_262 ?_
          refine lv_iload hx hb d_p15m31_265 (lv_at hl 0 rfl) ?_
          refine lv_iload_n hx hb d_p15m31_267 rfl (lv_at hl 4 rfl) ?_
          refine pd_iast X w f12 (hMO.2.2 14 (by decide)).2 (by omega) (by omega) d_p15m31_268 (fun H locs w => ?_)
          have w : pd_w G s H locs (pd_up h4 (ad 14) (44, .inl (.int, 24, .inl (upd (fv 14) k (nI mm))))) := w
          obtain ⟨h18, u21⟩ : ∃ z, z = pd_up h4 (ad 14) (44, .inl (.int, 24, .inl (upd (fv 14) k (nI mm)))) := ⟨_, rfl⟩
          rw [← u21] at w
          have k19 : pd_kq (ad 14) h4 h18 := by rw [u21]; exact pd_up_kq
          have f20 : h18 (ad 14) = some (44, .inl (.int, 24, .inl (upd (fv 14) k (nI mm)))) := by rw [u21]; exact pd_up_s _ _ _
          have f22 := k19 _ _ (pd_ne f8 f12 (by simp)) f8
          have f23 := k19 _ _ (pd_ne f9 f12 (by simp)) f9
          have f24 := k19 _ _ (pd_ne f10 f12 (by simp)) f10
          have f25 := k19 _ _ (pd_ne f11 f12 (by simp)) f11
          have f26 := k19 _ _ (pd_ne f13 f12 (by simp)) f13
          have f27 := k19 _ _ (pd_ne f14 f12 (by simp)) f14
          have f28 := k19 _ _ (pd_ne f15 f12 (by simp)) f15
          have f29 := k19 _ _ (pd_ne f16 f12 (by simp)) f16
          have f30 := k19 _ _ (pd_ne f17 f12 (by simp)) f17
          have f31 := k19 _ _ (pd_ne f6 f12 (by simp)) f6
          refine lv_aload_n hx hb d_p15m31_269 rfl (lv_at hl 5 rfl) ?_
          refine pd_get X w f22 rfl 19 (by decide) mT_1158 rfl rfl d_p15m31_270 ?_
          refine lv_iload hx hb d_p15m31_273 (lv_at hl 0 rfl) ?_
          refine lv_iload_n hx hb d_p15m31_275 rfl (lv_at hl 7 rfl) ?_
          refine pd_zast (z := (nI 0)) X w f30 (hMO.2.2 19 (by decide)).2 (by omega) (by omega) (by decide) d_p15m31_276 (fun H locs w => ?_)
          have w : pd_w G s H locs (pd_up h18 (ad 19) (49, .inl (.boolean, 24, .inl (upd (fv 19) k (nI 0))))) := w
          obtain ⟨h32, u35⟩ : ∃ z, z = pd_up h18 (ad 19) (49, .inl (.boolean, 24, .inl (upd (fv 19) k (nI 0)))) := ⟨_, rfl⟩
          rw [← u35] at w
          have k33 : pd_kq (ad 19) h18 h32 := by rw [u35]; exact pd_up_kq
          have f34 : h32 (ad 19) = some (49, .inl (.boolean, 24, .inl (upd (fv 19) k (nI 0)))) := by rw [u35]; exact pd_up_s _ _ _
          have f36 := k33 _ _ (pd_ne f22 f30 (by simp)) f22
          have f37 := k33 _ _ (pd_ne f23 f30 (by simp)) f23
          have f38 := k33 _ _ (pd_ne f24 f30 (by simp)) f24
          have f39 := k33 _ _ (pd_ne f25 f30 (by simp)) f25
          have f40 := k33 _ _ (pd_ne f26 f30 (by simp)) f26
          have f41 := k33 _ _ (pd_ne f27 f30 (by simp)) f27
          have f42 := k33 _ _ (pd_ne f28 f30 (by simp)) f28
          have f43 := k33 _ _ (pd_ne f29 f30 (by simp)) f29
          have f44 := k33 _ _ (pd_ne f31 f30 (by simp)) f31
          have f45 := k33 _ _ (pd_ne f20 f30 (by simp)) f20
          refine lv_aload_n hx hb d_p15m31_277 rfl (lv_at hl 5 rfl) ?_
          refine pd_get X w f36 rfl 16 (by decide) mT_1155 rfl rfl d_p15m31_278 ?_
          refine lv_iload hx hb d_p15m31_281 (lv_at hl 0 rfl) ?_
          refine lv_iload hx hb d_p15m31_283 (lv_at hl 2 rfl) ?_
          refine lv_aload_n hx hb d_p15m31_285 rfl (lv_at hl 5 rfl) ?_
          refine pd_get X w f36 rfl 40 (by decide) mT_1179 rfl rfl d_p15m31_286 ?_
          refine pd_isub hx hb d_p15m31_289 (by omega) ?_
          refine pd_iast X w f41 (hMO.2.2 16 (by decide)).2 (by omega) (by omega) d_p15m31_290 (fun H locs w => ?_)
          have w : pd_w G s H locs (pd_up h32 (ad 16) (46, .inl (.int, 24, .inl (upd (fv 16) k (nI ((eA 1) - (gm_name cs (sA 1) (eA 1) + 1))))))) := w
          obtain ⟨h46, u49⟩ : ∃ z, z = pd_up h32 (ad 16) (46, .inl (.int, 24, .inl (upd (fv 16) k (nI ((eA 1) - (gm_name cs (sA 1) (eA 1) + 1)))))) := ⟨_, rfl⟩
          rw [← u49] at w
          have k47 : pd_kq (ad 16) h32 h46 := by rw [u49]; exact pd_up_kq
          have f48 : h46 (ad 16) = some (46, .inl (.int, 24, .inl (upd (fv 16) k (nI ((eA 1) - (gm_name cs (sA 1) (eA 1) + 1)))))) := by rw [u49]; exact pd_up_s _ _ _
          have f50 := k47 _ _ (pd_ne f36 f41 (by simp)) f36
          have f51 := k47 _ _ (pd_ne f37 f41 (by simp)) f37
          have f52 := k47 _ _ (pd_ne f38 f41 (by simp)) f38
          have f53 := k47 _ _ (pd_ne f39 f41 (by simp)) f39
          have f54 := k47 _ _ (pd_ne f40 f41 (by simp)) f40
          have f55 := k47 _ _ (pd_ne f42 f41 (by simp)) f42
          have f56 := k47 _ _ (pd_ne f43 f41 (by simp)) f43
          have f57 := k47 _ _ (pd_ne f44 f41 (by simp)) f44
          have f58 := k47 _ _ (pd_ne f45 f41 (by simp)) f45
          have f59 := k47 _ _ (pd_ne f34 f41 (by simp)) f34
          refine lv_iconst (v := nI 0) hx hb d_p15m31_291 (by decide) ?_
          refine lv_istore (lv' := [(8, .int (nI 0)), (7, .int (nI k)), (6, .int (pd_b la)), (5, .int (nI (eA 1))), (4, .int (nI jc)), (3, .int (nI mm)), (0, .ref y), (1, .int (nI nw)), (2, .int (nI 0))]) hx hb d_p15m31_292 hl (by decide) rfl (fun ls hl => ?_)
          have mo60 : pd_MO G h46 y ad (pd_fu (pd_fu (pd_fu (pd_fu fv 13 (upd (fv 13) k (nI jc))) 14 (upd (fv 14) k (nI mm))) 16 (upd (fv 16) k (nI ((eA 1) - (gm_name cs (sA 1) (eA 1) + 1))))) 19 (upd (fv 19) k (nI 0))) (pd_fu (pd_fu iv 38 (nI (gm_name cs (sA 1) (eA 1)))) 40 (nI (gm_name cs (sA 1) (eA 1) + 1))) tl := pd_MO.of (ts := [43, 44, 49, 46]) hMO2 (pd_kx.tr (pd_kx.mono (us := [43, 44, 49, 46]) (pd_kx.tr (pd_kx.mono (us := [43, 44, 49]) (pd_kx.tr (pd_kx.mono (us := [43, 44]) (pd_kq.kx (k5) ha13) (by simp)) (pd_kx.mono (us := [43, 44]) (pd_kq.kx (k19) f12) (by simp))) (by simp)) (pd_kx.mono (us := [43, 44, 49]) (pd_kq.kx (k33) f30) (by simp))) (by simp)) (pd_kx.mono (us := [43, 44, 49, 46]) (pd_kq.kx (k47) f41) (by simp))) f50 (fun j hj => if e13 : j = 13 then by subst e13; exact Or.inl f57 else if e14 : j = 14 then by subst e14; exact Or.inl f58 else if e16 : j = 16 then by subst e16; exact Or.inl f48 else if e19 : j = 19 then by subst e19; exact Or.inl f59 else Or.inr ⟨fun z => by first | (simp at z; done) | (simp at z; omega), by rw [pd_fu_n e19, pd_fu_n e16, pd_fu_n e14, pd_fu_n e13]⟩)
          exact lp_Mod_addF_294 l G h hMO hL hC hM hW hw2 hbda hism hmk X hmn (100 + 1) 0 jc mm (fv 15) h46 (hk2.tr (pd_kx.mono (us := [20, 43, 44, 45, 46, 47, 48, 49]) (pd_kx.tr (pd_kx.mono (us := [43, 44, 49, 46]) (pd_kx.tr (pd_kx.mono (us := [43, 44, 49]) (pd_kx.tr (pd_kx.mono (us := [43, 44]) (pd_kq.kx (k5) ha13) (by simp)) (pd_kx.mono (us := [43, 44]) (pd_kq.kx (k19) f12) (by simp))) (by simp)) (pd_kx.mono (us := [43, 44, 49]) (pd_kq.kx (k33) f30) (by simp))) (by simp)) (pd_kx.mono (us := [43, 44, 49, 46]) (pd_kq.kx (k47) f41) (by simp))) (by simp))) ((pd_MO.ext (fv2 := pd_fu (pd_fu (pd_fu (pd_fu (pd_fu fv 13 (upd (fv 13) k (nI jc))) 14 (upd (fv 14) k (nI mm))) 15 (fv 15)) 16 (upd (fv 16) k (nI ((eA 1) - (gm_name cs (sA 1) (eA 1) + 1))))) 19 (upd (fv 19) k (nI 0))) (iv2 := pd_fu (pd_fu iv 38 (nI (gm_name cs (sA 1) (eA 1)))) 40 (nI (gm_name cs (sA 1) (eA 1) + 1))) mo60 (fun j9 hj9 => by by_cases e913 : j9 = 13; subst e913; rfl; by_cases e914 : j9 = 14; subst e914; rfl; by_cases e915 : j9 = 15; subst e915; rfl; by_cases e916 : j9 = 16; subst e916; rfl; by_cases e919 : j9 = 19; subst e919; rfl; simp only [pd_fu, if_neg e913, if_neg e914, if_neg e915, if_neg e916, if_neg e919]) rfl)) (hn34) (hmem) (hc2) (hmk9) (hfq) (hgq) (by omega) (hns q2) (by omega) (by omega) (fun t ht => absurd ht (Nat.not_lt_zero t)) (fun _ _ => rfl) (by omega) _ _ w ls (lv_sub hl [0, 1, 3, 4, 5, 6, 7, 8] rfl)
        · -- not taken: 243
          refine lv_bipush (v := -5) hx hb d_p15m31_243 (by decide) ?_
          have hg : gr_dm n R k M cs = (-5, k, M) := by unfold gr_dm; simp only [← (hbda hmem).1, ← (hbda hmem).2, ← hw2, hfq.symm, hgq.symm]; rw [if_neg (hns q2), gr_madd_n (by omega)]
          exact pd_iret (v := (-5)) X w (Or.inr ⟨⟨hn34, hmem, hc2, by rw [hmk9]; simp⟩, by rw [hg], hk2, _, _, hMO2, ⟨fun _ _ => rfl, fun j hj => by simp at hj; simp [pd_fu, hj]⟩, (by rw [hg]; exact hM)⟩) (by decide) (by decide) d_p15m31_245
      · -- not taken: 231
        refine lv_bipush (v := -4) hx hb d_p15m31_231 (by decide) ?_
        have hg : gr_dm n R k M cs = (-4, k, M) := by unfold gr_dm; simp only [← (hbda hmem).1, ← (hbda hmem).2, ← hw2, hfq.symm, hgq.symm]; rw [if_pos ⟨gm_fin_y (by omega) (hsm q2).1 (fun t ht => (hsm q2).2.2 t (by omega)), (hsm q2).2.1⟩]
        exact pd_iret (v := (-4)) X w (Or.inr ⟨⟨hn34, hmem, hc2, by rw [hmk9]; simp⟩, by rw [hg], hk2, _, _, hMO2, ⟨fun _ _ => rfl, fun j hj => by simp at hj; simp [pd_fu, hj]⟩, (by rw [hg]; exact hM)⟩) (by decide) (by decide) d_p15m31_233
    · -- not taken: 179
      refine lv_iload hx hb d_p15m31_179 (lv_at hl 1 rfl) ?_
      refine pd_beq (tgt := 226) hx hb d_p15m31_181 (by decide) (fun q61 => ?_) (fun q61 => ?_)
      · -- taken: 226
        refine lv_iload hx hb d_p15m31_226 (lv_at hl 1 rfl) ?_
        refine pd_beq (tgt := 234) hx hb d_p15m31_228 (by decide) (fun q62 => ?_) (fun q62 => ?_)
        · -- taken: 234
          refine lv_aload_n hx hb d_p15m31_234 rfl (lv_at hl 5 rfl) ?_
          refine pd_get X w hy2 rfl 20 (by decide) mT_1159 rfl rfl d_p15m31_235 ?_
          refine pd_top (v' := .int (nI k)) (congrArg Value.int hiv20) ?_
          refine lv_bipush (v := nI 24) hx hb d_p15m31_238 (by decide) ?_
          refine pd_jne (tgt := 246) hx hb d_p15m31_240 (by decide) (by omega) (by omega) (fun q63 => ?_) (fun q63 => ?_)
          · -- taken: 246
            refine lv_aload_n hx hb d_p15m31_246 rfl (lv_at hl 5 rfl) ?_
            refine pd_get X w hy2 rfl 20 (by decide) mT_1159 rfl rfl d_p15m31_247 ?_
            refine pd_top (v' := .int (nI k)) (congrArg Value.int hiv20) ?_
            refine lv_istore (lv' := [(7, .int (nI k)), (6, .int (pd_b la)), (5, .int (nI (eA 1))), (4, .int (nI jc)), (3, .int (nI mm)), (0, .ref y), (1, .int (nI nw)), (2, .int (nI 0))]) hx hb d_p15m31_250 hl (by decide) rfl (fun ls hl => ?_)
            refine lv_aload_n hx hb d_p15m31_252 rfl (lv_at hl 5 rfl) ?_
            refine pd_get X w hy2 rfl 13 (by decide) mT_1152 rfl rfl d_p15m31_253 ?_
            refine lv_iload hx hb d_p15m31_256 (lv_at hl 0 rfl) ?_
            refine lv_iload hx hb d_p15m31_258 (lv_at hl 3 rfl) ?_
            refine pd_iast X w ha13 (hMO.2.2 13 (by decide)).2 (by omega) (by omega) d_p15m31_260 (fun H locs w => ?_)
            have w : pd_w G s H locs (pd_up hh (ad 13) (43, .inl (.int, 24, .inl (upd (fv 13) k (nI jc))))) := w
            obtain ⟨h64, u67⟩ : ∃ z, z = pd_up hh (ad 13) (43, .inl (.int, 24, .inl (upd (fv 13) k (nI jc)))) := ⟨_, rfl⟩
            rw [← u67] at w
            have k65 : pd_kq (ad 13) hh h64 := by rw [u67]; exact pd_up_kq
            have f66 : h64 (ad 13) = some (43, .inl (.int, 24, .inl (upd (fv 13) k (nI jc)))) := by rw [u67]; exact pd_up_s _ _ _
            have f68 := k65 _ _ (pd_ne hy2 ha13 (by simp)) hy2
            have f69 := k65 _ _ (pd_ne ha0 ha13 (by simp)) ha0
            have f70 := k65 _ _ (pd_ne ha1 ha13 (by simp)) ha1
            have f71 := k65 _ _ (pd_ne ha2 ha13 (by simp)) ha2
            have f72 := k65 _ _ (pd_ne ha14 ha13 (by simp)) ha14
            have f73 := k65 _ _ (pd_ne ha15 ha13 (by simp)) ha15
            have f74 := k65 _ _ (pd_ne ha16 ha13 (by simp)) ha16
            have f75 := k65 _ _ (pd_ne ha17 ha13 (by simp)) ha17
            have f76 := k65 _ _ (pd_ne ha18 ha13 (by simp)) ha18
            have f77 := k65 _ _ (pd_ne ha19 ha13 (by simp)) ha19
            refine lv_aload_n hx hb d_p15m31_261 rfl (lv_at hl 5 rfl) ?_
            refine pd_get X w f68 rfl 14 (by decide) mT_1153 rfl rfl d_p15m31_262 ?_
            refine lv_iload hx hb d_p15m31_265 (lv_at hl 0 rfl) ?_
            refine lv_iload_n hx hb d_p15m31_267 rfl (lv_at hl 4 rfl) ?_
            refine pd_iast X w f72 (hMO.2.2 14 (by decide)).2 (by omega) (by omega) d_p15m31_268 (fun H locs w => ?_)
            have w : pd_w G s H locs (pd_up h64 (ad 14) (44, .inl (.int, 24, .inl (upd (fv 14) k (nI mm))))) := w
            obtain ⟨h78, u81⟩ : ∃ z, z = pd_up h64 (ad 14) (44, .inl (.int, 24, .inl (upd (fv 14) k (nI mm)))) := ⟨_, rfl⟩
            rw [← u81] at w
            have k79 : pd_kq (ad 14) h64 h78 := by rw [u81]; exact pd_up_kq
            have f80 : h78 (ad 14) = some (44, .inl (.int, 24, .inl (upd (fv 14) k (nI mm)))) := by rw [u81]; exact pd_up_s _ _ _
            have f82 := k79 _ _ (pd_ne f68 f72 (by simp)) f68
            have f83 := k79 _ _ (pd_ne f69 f72 (by simp)) f69
            have f84 := k79 _ _ (pd_ne f70 f72 (by simp)) f70
            have f85 := k79 _ _ (pd_ne f71 f72 (by simp)) f71
            have f86 := k79 _ _ (pd_ne f73 f72 (by simp)) f73
            have f87 := k79 _ _ (pd_ne f74 f72 (by simp)) f74
            have f88 := k79 _ _ (pd_ne f75 f72 (by simp)) f75
            have f89 := k79 _ _ (pd_ne f76 f72 (by simp)) f76
            have f90 := k79 _ _ (pd_ne f77 f72 (by simp)) f77
            have f91 := k79 _ _ (pd_ne f66 f72 (by simp)) f66
            refine lv_aload_n hx hb d_p15m31_269 rfl (lv_at hl 5 rfl) ?_
            refine pd_get X w f82 rfl 19 (by decide) mT_1158 rfl rfl d_p15m31_270 ?_
            refine lv_iload hx hb d_p15m31_273 (lv_at hl 0 rfl) ?_
            refine lv_iload_n hx hb d_p15m31_275 rfl (lv_at hl 7 rfl) ?_
            refine pd_zast (z := (nI 0)) X w f90 (hMO.2.2 19 (by decide)).2 (by omega) (by omega) (by decide) d_p15m31_276 (fun H locs w => ?_)
            have w : pd_w G s H locs (pd_up h78 (ad 19) (49, .inl (.boolean, 24, .inl (upd (fv 19) k (nI 0))))) := w
            obtain ⟨h92, u95⟩ : ∃ z, z = pd_up h78 (ad 19) (49, .inl (.boolean, 24, .inl (upd (fv 19) k (nI 0)))) := ⟨_, rfl⟩
            rw [← u95] at w
            have k93 : pd_kq (ad 19) h78 h92 := by rw [u95]; exact pd_up_kq
            have f94 : h92 (ad 19) = some (49, .inl (.boolean, 24, .inl (upd (fv 19) k (nI 0)))) := by rw [u95]; exact pd_up_s _ _ _
            have f96 := k93 _ _ (pd_ne f82 f90 (by simp)) f82
            have f97 := k93 _ _ (pd_ne f83 f90 (by simp)) f83
            have f98 := k93 _ _ (pd_ne f84 f90 (by simp)) f84
            have f99 := k93 _ _ (pd_ne f85 f90 (by simp)) f85
            have f100 := k93 _ _ (pd_ne f86 f90 (by simp)) f86
            have f101 := k93 _ _ (pd_ne f87 f90 (by simp)) f87
            have f102 := k93 _ _ (pd_ne f88 f90 (by simp)) f88
            have f103 := k93 _ _ (pd_ne f89 f90 (by simp)) f89
            have f104 := k93 _ _ (pd_ne f91 f90 (by simp)) f91
            have f105 := k93 _ _ (pd_ne f80 f90 (by simp)) f80
            refine lv_aload_n hx hb d_p15m31_277 rfl (lv_at hl 5 rfl) ?_
            refine pd_get X w f96 rfl 16 (by decide) mT_1155 rfl rfl d_p15m31_278 ?_
            refine lv_iload hx hb d_p15m31_281 (lv_at hl 0 rfl) ?_
            refine lv_iload hx hb d_p15m31_283 (lv_at hl 2 rfl) ?_
            refine lv_aload_n hx hb d_p15m31_285 rfl (lv_at hl 5 rfl) ?_
            refine pd_get X w f96 rfl 40 (by decide) mT_1179 rfl rfl d_p15m31_286 ?_
            refine pd_isub hx hb d_p15m31_289 (by omega) ?_
            refine pd_iast X w f101 (hMO.2.2 16 (by decide)).2 (by omega) (by omega) d_p15m31_290 (fun H locs w => ?_)
            have w : pd_w G s H locs (pd_up h92 (ad 16) (46, .inl (.int, 24, .inl (upd (fv 16) k (nI ((eA 1) - (gm_name cs (sA 1) (eA 1) + 1))))))) := w
            obtain ⟨h106, u109⟩ : ∃ z, z = pd_up h92 (ad 16) (46, .inl (.int, 24, .inl (upd (fv 16) k (nI ((eA 1) - (gm_name cs (sA 1) (eA 1) + 1)))))) := ⟨_, rfl⟩
            rw [← u109] at w
            have k107 : pd_kq (ad 16) h92 h106 := by rw [u109]; exact pd_up_kq
            have f108 : h106 (ad 16) = some (46, .inl (.int, 24, .inl (upd (fv 16) k (nI ((eA 1) - (gm_name cs (sA 1) (eA 1) + 1)))))) := by rw [u109]; exact pd_up_s _ _ _
            have f110 := k107 _ _ (pd_ne f96 f101 (by simp)) f96
            have f111 := k107 _ _ (pd_ne f97 f101 (by simp)) f97
            have f112 := k107 _ _ (pd_ne f98 f101 (by simp)) f98
            have f113 := k107 _ _ (pd_ne f99 f101 (by simp)) f99
            have f114 := k107 _ _ (pd_ne f100 f101 (by simp)) f100
            have f115 := k107 _ _ (pd_ne f102 f101 (by simp)) f102
            have f116 := k107 _ _ (pd_ne f103 f101 (by simp)) f103
            have f117 := k107 _ _ (pd_ne f104 f101 (by simp)) f104
            have f118 := k107 _ _ (pd_ne f105 f101 (by simp)) f105
            have f119 := k107 _ _ (pd_ne f94 f101 (by simp)) f94
            refine lv_iconst (v := nI 0) hx hb d_p15m31_291 (by decide) ?_
            refine lv_istore (lv' := [(8, .int (nI 0)), (7, .int (nI k)), (6, .int (pd_b la)), (5, .int (nI (eA 1))), (4, .int (nI jc)), (3, .int (nI mm)), (0, .ref y), (1, .int (nI nw)), (2, .int (nI 0))]) hx hb d_p15m31_292 hl (by decide) rfl (fun ls hl => ?_)
            have mo120 : pd_MO G h106 y ad (pd_fu (pd_fu (pd_fu (pd_fu fv 13 (upd (fv 13) k (nI jc))) 14 (upd (fv 14) k (nI mm))) 16 (upd (fv 16) k (nI ((eA 1) - (gm_name cs (sA 1) (eA 1) + 1))))) 19 (upd (fv 19) k (nI 0))) (pd_fu (pd_fu iv 38 (nI (gm_name cs (sA 1) (eA 1)))) 40 (nI (gm_name cs (sA 1) (eA 1) + 1))) tl := pd_MO.of (ts := [43, 44, 49, 46]) hMO2 (pd_kx.tr (pd_kx.mono (us := [43, 44, 49, 46]) (pd_kx.tr (pd_kx.mono (us := [43, 44, 49]) (pd_kx.tr (pd_kx.mono (us := [43, 44]) (pd_kq.kx (k65) ha13) (by simp)) (pd_kx.mono (us := [43, 44]) (pd_kq.kx (k79) f72) (by simp))) (by simp)) (pd_kx.mono (us := [43, 44, 49]) (pd_kq.kx (k93) f90) (by simp))) (by simp)) (pd_kx.mono (us := [43, 44, 49, 46]) (pd_kq.kx (k107) f101) (by simp))) f110 (fun j hj => if e13 : j = 13 then by subst e13; exact Or.inl f117 else if e14 : j = 14 then by subst e14; exact Or.inl f118 else if e16 : j = 16 then by subst e16; exact Or.inl f108 else if e19 : j = 19 then by subst e19; exact Or.inl f119 else Or.inr ⟨fun z => by first | (simp at z; done) | (simp at z; omega), by rw [pd_fu_n e19, pd_fu_n e16, pd_fu_n e14, pd_fu_n e13]⟩)
            exact lp_Mod_addF_294 l G h hMO hL hC hM hW hw2 hbda hism hmk X hmn (100 + 1) 0 jc mm (fv 15) h106 (hk2.tr (pd_kx.mono (us := [20, 43, 44, 45, 46, 47, 48, 49]) (pd_kx.tr (pd_kx.mono (us := [43, 44, 49, 46]) (pd_kx.tr (pd_kx.mono (us := [43, 44, 49]) (pd_kx.tr (pd_kx.mono (us := [43, 44]) (pd_kq.kx (k65) ha13) (by simp)) (pd_kx.mono (us := [43, 44]) (pd_kq.kx (k79) f72) (by simp))) (by simp)) (pd_kx.mono (us := [43, 44, 49]) (pd_kq.kx (k93) f90) (by simp))) (by simp)) (pd_kx.mono (us := [43, 44, 49, 46]) (pd_kq.kx (k107) f101) (by simp))) (by simp))) ((pd_MO.ext (fv2 := pd_fu (pd_fu (pd_fu (pd_fu (pd_fu fv 13 (upd (fv 13) k (nI jc))) 14 (upd (fv 14) k (nI mm))) 15 (fv 15)) 16 (upd (fv 16) k (nI ((eA 1) - (gm_name cs (sA 1) (eA 1) + 1))))) 19 (upd (fv 19) k (nI 0))) (iv2 := pd_fu (pd_fu iv 38 (nI (gm_name cs (sA 1) (eA 1)))) 40 (nI (gm_name cs (sA 1) (eA 1) + 1))) mo120 (fun j9 hj9 => by by_cases e913 : j9 = 13; subst e913; rfl; by_cases e914 : j9 = 14; subst e914; rfl; by_cases e915 : j9 = 15; subst e915; rfl; by_cases e916 : j9 = 16; subst e916; rfl; by_cases e919 : j9 = 19; subst e919; rfl; simp only [pd_fu, if_neg e913, if_neg e914, if_neg e915, if_neg e916, if_neg e919]) rfl)) (hn34) (hmem) (hc2) (hmk9) (hfq) (hgq) (by omega) (hns q62) (by omega) (by omega) (fun t ht => absurd ht (Nat.not_lt_zero t)) (fun _ _ => rfl) (by omega) _ _ w ls (lv_sub hl [0, 1, 3, 4, 5, 6, 7, 8] rfl)
          · -- not taken: 243
            refine lv_bipush (v := -5) hx hb d_p15m31_243 (by decide) ?_
            have hg : gr_dm n R k M cs = (-5, k, M) := by unfold gr_dm; simp only [← (hbda hmem).1, ← (hbda hmem).2, ← hw2, hfq.symm, hgq.symm]; rw [if_neg (hns q62), gr_madd_n (by omega)]
            exact pd_iret (v := (-5)) X w (Or.inr ⟨⟨hn34, hmem, hc2, by rw [hmk9]; simp⟩, by rw [hg], hk2, _, _, hMO2, ⟨fun _ _ => rfl, fun j hj => by simp at hj; simp [pd_fu, hj]⟩, (by rw [hg]; exact hM)⟩) (by decide) (by decide) d_p15m31_245
        · -- not taken: 231
          exact absurd (q61.symm.trans q62) (by simp)
      · -- not taken: 184
        have hq9 := (hsm q61).1
        refine lv_aload_n hx hb d_p15m31_184 rfl (lv_at hl 5 rfl) ?_
        refine pd_get X w hy2 rfl 0 (by decide) mT_1139 rfl rfl d_p15m31_185 ?_
        refine lv_aload_n hx hb d_p15m31_188 rfl (lv_at hl 5 rfl) ?_
        refine pd_get X w hy2 rfl 40 (by decide) mT_1179 rfl rfl d_p15m31_189 ?_
        refine lv_iload hx hb d_p15m31_192 (lv_at hl 0 rfl) ?_
        refine pd_iadd hx hb d_p15m31_194 ?_
        refine pd_iald X w ha0 (by omega) (by omega) d_p15m31_195 ?_
        refine pd_top (v' := .int (nI (cs.getD ((gm_name cs (sA 1) (eA 1) + 1) + ii) 0))) (congrArg Value.int (hln _ (by omega))) ?_
        have := tx_lt hlc ((gm_name cs (sA 1) (eA 1) + 1) + ii)
        refine lv_ldc2 (v := 7312272859201431910) hx hb X.2.2.2.2.1 (X.2.2.2.2.2.1 _ mT_1366) d_p15m31_196 ?_
        refine lv_bipush (v := nI 8) hx hb d_p15m31_199 (by decide) ?_
        refine lv_iload hx hb d_p15m31_201 (lv_at hl 0 rfl) ?_
        refine pd_imul hx hb d_p15m31_203 ?_
        refine lv_lshr hx hb d_p15m31_204 rfl ?_
        refine lv_ldc2 (v := 255) hx hb X.2.2.2.2.1 (X.2.2.2.2.2.1 _ mT_1137) d_p15m31_205 ?_
        refine lv_land hx hb d_p15m31_208 ?_
        refine lv_l2i hx hb d_p15m31_209 rfl ?_
        refine pd_top (v' := .int (nI (gm_oc 7312272859201431910 ii))) (congrArg Value.int (gm_oct _)) ?_
        have hoc := gm_oc_lt 7312272859201431910 ii
        refine pd_jne (tgt := 217) hx hb d_p15m31_210 (by decide) (by omega) (by omega) (fun q121 => ?_) (fun q121 => ?_)
        · -- taken: 217
          refine lv_iconst (v := nI 0) hx hb d_p15m31_217 (by decide) ?_
          refine lv_istore (lv' := [(6, .int (nI 0)), (7, .int (nI ii)), (5, .int (nI (eA 1))), (4, .int (nI jc)), (3, .int (nI mm)), (0, .ref y), (1, .int (nI nw)), (2, .int (nI 0))]) hx hb d_p15m31_218 hl (by decide) rfl (fun ls hl => ?_)
          refine pd_iinc (k := 1) (d := 1) (lv' := [(7, .int (nI (ii + 1))), (6, .int (nI 0)), (5, .int (nI (eA 1))), (4, .int (nI jc)), (3, .int (nI mm)), (0, .ref y), (1, .int (nI nw)), (2, .int (nI 0))]) hx hb d_p15m31_220 (by decide) hl rfl (by decide) rfl (fun ls hl => ?_)
          refine lv_goto (tgt := 172) hx hb d_p15m31_223 (by decide) ?_
          exact ih (ii + 1) false jc mm hh (hk2.tr (pd_kx.rf)) (hMO2) (hn34) (hmem) (hc2) (hmk9) (hfq) (hgq) (by omega) (by omega) (fun z => by cases z) (fun _ => gm_fin_n2 (t := ii) (by omega) (by omega) (by omega)) (by omega) _ _ w ls (lv_sub hl [0, 1, 2, 3, 4, 5, 6, 7] rfl)
        · -- not taken: 213
          refine lv_iconst (v := nI 1) hx hb d_p15m31_213 (by decide) ?_
          refine lv_goto (tgt := 218) hx hb d_p15m31_214 (by decide) ?_
          refine lv_istore (lv' := [(6, .int (nI 1)), (7, .int (nI ii)), (5, .int (nI (eA 1))), (4, .int (nI jc)), (3, .int (nI mm)), (0, .ref y), (1, .int (nI nw)), (2, .int (nI 0))]) hx hb d_p15m31_218 hl (by decide) rfl (fun ls hl => ?_)
          refine pd_iinc (k := 1) (d := 1) (lv' := [(7, .int (nI (ii + 1))), (6, .int (nI 1)), (5, .int (nI (eA 1))), (4, .int (nI jc)), (3, .int (nI mm)), (0, .ref y), (1, .int (nI nw)), (2, .int (nI 0))]) hx hb d_p15m31_220 (by decide) hl rfl (by decide) rfl (fun ls hl => ?_)
          refine lv_goto (tgt := 172) hx hb d_p15m31_223 (by decide) ?_
          exact ih (ii + 1) true jc mm hh (hk2.tr (pd_kx.rf)) (hMO2) (hn34) (hmem) (hc2) (hmk9) (hfq) (hgq) (by omega) (by omega) (fun _ => ⟨(hsm q61).1, (hsm q61).2.1, fun t ht => by by_cases e9 : t = ii; subst e9; omega; exact (hsm q61).2.2 t (by omega)⟩) (fun z => by cases z) (by omega) _ _ w ls (lv_sub hl [0, 1, 2, 3, 4, 5, 6, 7] rfl)
set_option maxHeartbeats 4000000 in
set_option maxRecDepth 100000 in
theorem c_Mod_addF (l : Launch) (G : pd_G) (h : pd_H) {y : Nat} {ad : Nat → Nat} {fv : Nat → Nat → Int32} {iv : Nat → Int32} {tl : Int64} {cs : List Nat} {n : Nat} {R : Nat → pd_cr} {k : Nat} {M : Nat → pd_mr} {nw : Nat} {sA eA : Nat → Nat} (hMO : pd_MO G h y ad fv iv tl) (hL : gm_L fv iv cs) (hC : gm_C fv iv n R) (hM : gm_M fv iv n k M) (hW : gm_W fv cs nw sA eA) (hw2 : tx_sub cs (sA 2) (eA 2) = gr_w cs 2) (hbda : gm_mem cs (sA 1) (eA 1) = true → tx_sub cs (sA 1) (gm_name cs (sA 1) (eA 1)) = gr_bd (gr_w cs 1) ∧ tx_sub cs (gm_name cs (sA 1) (eA 1) + 1) (eA 1) = gr_ad (gr_w cs 1)) (hism : gm_type cs (sA 2) (eA 2) = some (eA 2) → gr_ism (gr_w cs 2) = false) (hmk : ∀ t, (if nw = 4 then gm_mk cs (eA 3) (eA 3 - sA 3) (sA 3) 0 else some 0) = some t → t = gr_mk (gr_w cs 3) ∧ t < 4) : pd_M l y_Mod_addF prog_15_method_31_code 9 (some .int) rm_Mod_addF G h [.ref y, .int (nI nw), .int (nI 0)] Value.int (fun r h1 => (¬ ((3 ≤ nw ∧ nw ≤ 4) ∧ gm_mem cs (sA 1) (eA 1) = true ∧ (gm_type cs (sA 2) (eA 2) = some (eA 2)) ∧ ¬ (if nw = 4 then gm_mk cs (eA 3) (eA 3 - sA 3) (sA 3) 0 else some 0) = none) ∧ r = -1 ∧ pd_kx [20, 43, 44, 45, 46, 47, 48, 49] h h1 ∧ ∃ fv2 iv2, pd_MO G h1 y ad fv2 iv2 tl ∧ gm_fr [13, 14, 15, 16, 17, 18, 19] [20, 38, 40] fv iv fv2 iv2 ∧ gm_M fv2 iv2 n k M) ∨ (((3 ≤ nw ∧ nw ≤ 4) ∧ gm_mem cs (sA 1) (eA 1) = true ∧ (gm_type cs (sA 2) (eA 2) = some (eA 2)) ∧ ¬ (if nw = 4 then gm_mk cs (eA 3) (eA 3 - sA 3) (sA 3) 0 else some 0) = none) ∧ r = (gr_dm n R k M cs).1 ∧ pd_kx [20, 43, 44, 45, 46, 47, 48, 49] h h1 ∧ ∃ fv2 iv2, pd_MO G h1 y ad fv2 iv2 tl ∧ gm_fr [13, 14, 15, 16, 17, 18, 19] [20, 38, 40] fv iv fv2 iv2 ∧ gm_M fv2 iv2 n (gr_dm n R k M cs).2.1 (gr_dm n R k M cs).2.2)) := by
  refine pd_M.of (by decide) (Nat.le_of_ble_eq_true rfl) ?_
  intro p e s m below meth c X hmn w ls hl
  have hx := X.1
  have hb := X.2.1
  have hl : lv_has ls 9 [(0, .ref y), (1, .int (nI nw)), (2, .int (nI 0))] := hl
  have hz_y := hMO.2.1
  have hy0 : h y = some (20, .inr (10, [.ref (ad 0), .ref (ad 1), .ref (ad 2), .int (iv 3), .int (iv 4), .int (iv 5), .ref (ad 6), .ref (ad 7), .ref (ad 8), .ref (ad 9), .ref (ad 10), .ref (ad 11), .int (iv 12), .ref (ad 13), .ref (ad 14), .ref (ad 15), .ref (ad 16), .ref (ad 17), .ref (ad 18), .ref (ad 19), .int (iv 20), .ref (ad 21), .ref (ad 22), .ref (ad 23), .ref (ad 24), .ref (ad 25), .ref (ad 26), .ref (ad 27), .ref (ad 28), .int (iv 29), .ref (ad 30), .ref (ad 31), .int (iv 32), .int (iv 33), .int (iv 34), .int (iv 35), .long tl, .int (iv 37), .int (iv 38), .int (iv 39), .int (iv 40), .ref (ad 41), .ref (ad 42), .int (iv 43)])) := hMO.1
  have ha0 : h (ad 0) = some (30, .inl (.int, 60, .inl (fv 0))) := (hMO.2.2 0 (by decide)).1
  have ha1 : h (ad 1) = some (31, .inl (.int, 40, .inl (fv 1))) := (hMO.2.2 1 (by decide)).1
  have ha2 : h (ad 2) = some (32, .inl (.int, 40, .inl (fv 2))) := (hMO.2.2 2 (by decide)).1
  have ha13 : h (ad 13) = some (43, .inl (.int, 24, .inl (fv 13))) := (hMO.2.2 13 (by decide)).1
  have ha14 : h (ad 14) = some (44, .inl (.int, 24, .inl (fv 14))) := (hMO.2.2 14 (by decide)).1
  have ha15 : h (ad 15) = some (45, .inl (.int, 288, .inl (fv 15))) := (hMO.2.2 15 (by decide)).1
  have ha16 : h (ad 16) = some (46, .inl (.int, 24, .inl (fv 16))) := (hMO.2.2 16 (by decide)).1
  have ha17 : h (ad 17) = some (47, .inl (.int, 1440, .inl (fv 17))) := (hMO.2.2 17 (by decide)).1
  have ha18 : h (ad 18) = some (48, .inl (.int, 24, .inl (fv 18))) := (hMO.2.2 18 (by decide)).1
  have ha19 : h (ad 19) = some (49, .inl (.boolean, 24, .inl (fv 19))) := (hMO.2.2 19 (by decide)).1
  obtain ⟨hiv3, hln, hl60, hlc⟩ := id hL
  obtain ⟨hiv12, hn2, hn14, hCc⟩ := id hC
  obtain ⟨hiv20, hk24, hMm⟩ := id hM
  have hw31 := hW.1
  refine lv_iload_n hx hb d_p15m31_0 rfl (lv_at hl 1 rfl) ?_
  refine lv_iconst (v := nI 3) hx hb d_p15m31_1 (by decide) ?_
  refine lv_iconst (v := nI 4) hx hb d_p15m31_2 (by decide) ?_
  refine pd_cS (As := [.int (nI nw), .int (nI 3), .int (nI 4)]) (rest := []) X w (c_Mod_in l G h (x := nw) (a := 3) (b := 4) (by omega) (by omega) (by omega)) ok_Mod_in mT_1278 mT_1277 ⟨by decide, by decide⟩ rfl hl.1 rfl (Nat.le_of_ble_eq_true rfl) d_p15m31_3 ⟨by decide, by decide⟩ (fun r1 h2 H locs hp3 w => ?_)
  refine W.widen (k := 0) (n := 0) (by decide) (by decide) ?_
  obtain ⟨e4, rfl⟩ := hp3
  refine pd_beq (tgt := 40) hx hb d_p15m31_6 (by decide) (fun q5 => ?_) (fun q5 => ?_)
  · -- taken: 40
    refine lv_iconst (v := -1) hx hb d_p15m31_40 (by decide) ?_
    exact pd_iret (v := (-1)) X w (Or.inl ⟨(fun z => of_decide_eq_false (e4.symm.trans q5) z.1), rfl, pd_kx.rf, _, _, hMO, ⟨fun _ _ => rfl, fun j hj => by simp at hj; simp [pd_fu, hj]⟩, hM⟩) (by decide) (by decide) d_p15m31_41
  · -- not taken: 9
    have hn34 := of_decide_eq_true (e4.symm.trans q5)
    refine lv_aload_n hx hb d_p15m31_9 rfl (lv_at hl 0 rfl) ?_
    refine lv_iconst (v := nI 1) hx hb d_p15m31_10 (by decide) ?_
    refine pd_cV (a := y) (As := [.int (nI 1)]) (rest := []) X w hy0 rfl (c_Mod_isMember l G h (cs := cs) (nw := nw) (sA := sA) (eA := eA) (ad := ad) (fv := fv) (iv := iv) (tl := tl) hMO hL hW (by omega)) ok_Mod_isMember ⟨mT_1340, sT_24⟩ mT_1338 ⟨by decide, by decide⟩ rfl hl.1 rfl (Nat.le_of_ble_eq_true rfl) d_p15m31_11 ⟨by decide, by decide⟩ (fun r6 h7 H locs hp8 w => ?_)
    refine W.widen (k := 0) (n := 0) (by decide) (by decide) ?_
    obtain ⟨e9, k10, f11⟩ := hp8
    have f12 := k10 _ _ ha0 (show (30 : Nat) ∉ [20] by decide)
    have f13 := k10 _ _ ha1 (show (31 : Nat) ∉ [20] by decide)
    have f14 := k10 _ _ ha2 (show (32 : Nat) ∉ [20] by decide)
    have f15 := k10 _ _ ha13 (show (43 : Nat) ∉ [20] by decide)
    have f16 := k10 _ _ ha14 (show (44 : Nat) ∉ [20] by decide)
    have f17 := k10 _ _ ha15 (show (45 : Nat) ∉ [20] by decide)
    have f18 := k10 _ _ ha16 (show (46 : Nat) ∉ [20] by decide)
    have f19 := k10 _ _ ha17 (show (47 : Nat) ∉ [20] by decide)
    have f20 := k10 _ _ ha18 (show (48 : Nat) ∉ [20] by decide)
    have f21 := k10 _ _ ha19 (show (49 : Nat) ∉ [20] by decide)
    have hy22 : h7 y = some (20, .inr (10, [.ref (ad 0), .ref (ad 1), .ref (ad 2), .int (iv 3), .int (iv 4), .int (iv 5), .ref (ad 6), .ref (ad 7), .ref (ad 8), .ref (ad 9), .ref (ad 10), .ref (ad 11), .int (iv 12), .ref (ad 13), .ref (ad 14), .ref (ad 15), .ref (ad 16), .ref (ad 17), .ref (ad 18), .ref (ad 19), .int (iv 20), .ref (ad 21), .ref (ad 22), .ref (ad 23), .ref (ad 24), .ref (ad 25), .ref (ad 26), .ref (ad 27), .ref (ad 28), .int (iv 29), .ref (ad 30), .ref (ad 31), .int (iv 32), .int (iv 33), .int (iv 34), .int (iv 35), .long tl, .int (iv 37), .int (nI (gm_name cs (sA 1) (eA 1))), .int (iv 39), .int (nI (gm_name cs (sA 1) (eA 1) + 1)), .ref (ad 41), .ref (ad 42), .int (iv 43)])) := f11.1
    have ha23 : h7 (ad 0) = some (30, .inl (.int, 60, .inl (fv 0))) := (f11.2.2 0 (by decide)).1
    have ha24 : h7 (ad 1) = some (31, .inl (.int, 40, .inl (fv 1))) := (f11.2.2 1 (by decide)).1
    have ha25 : h7 (ad 2) = some (32, .inl (.int, 40, .inl (fv 2))) := (f11.2.2 2 (by decide)).1
    have ha26 : h7 (ad 13) = some (43, .inl (.int, 24, .inl (fv 13))) := (f11.2.2 13 (by decide)).1
    have ha27 : h7 (ad 14) = some (44, .inl (.int, 24, .inl (fv 14))) := (f11.2.2 14 (by decide)).1
    have ha28 : h7 (ad 15) = some (45, .inl (.int, 288, .inl (fv 15))) := (f11.2.2 15 (by decide)).1
    have ha29 : h7 (ad 16) = some (46, .inl (.int, 24, .inl (fv 16))) := (f11.2.2 16 (by decide)).1
    have ha30 : h7 (ad 17) = some (47, .inl (.int, 1440, .inl (fv 17))) := (f11.2.2 17 (by decide)).1
    have ha31 : h7 (ad 18) = some (48, .inl (.int, 24, .inl (fv 18))) := (f11.2.2 18 (by decide)).1
    have ha32 : h7 (ad 19) = some (49, .inl (.boolean, 24, .inl (fv 19))) := (f11.2.2 19 (by decide)).1
    refine pd_beq (tgt := 40) hx hb d_p15m31_14 (by decide) (fun q33 => ?_) (fun q33 => ?_)
    · -- taken: 40
      refine lv_iconst (v := -1) hx hb d_p15m31_40 (by decide) ?_
      exact pd_iret (v := (-1)) X w (Or.inl ⟨(fun z => by have z1 := z.2.1; rw [← e9, q33] at z1; cases z1), rfl, pd_kx.mono (us := [20, 43, 44, 45, 46, 47, 48, 49]) (k10) (by simp), _, _, f11, ⟨fun _ _ => rfl, fun j hj => by simp at hj; simp [pd_fu, hj]⟩, hM⟩) (by decide) (by decide) d_p15m31_41
    · -- not taken: 17
      have hmem := e9.symm.trans q33
      have hmb := of_decide_eq_true hmem
      have hwl2 := (hW.2 2 (by omega)).2.2
      have hwl1 := (hW.2 1 (by omega)).2.2
      refine lv_iload_n hx hb d_p15m31_17 rfl (lv_at hl 2 rfl) ?_
      refine pd_zeq (tgt := 32) hx hb d_p15m31_18 (by decide) (by decide) (fun _ => ?_) (fun q => absurd q (by decide))
      refine lv_aload_n hx hb d_p15m31_32 rfl (lv_at hl 0 rfl) ?_
      refine lv_iconst (v := nI 2) hx hb d_p15m31_33 (by decide) ?_
      refine pd_cV (a := y) (As := [.int (nI 2)]) (rest := []) X w hy22 rfl (c_Mod_isType l G h7 (cs := cs) (nw := nw) (sA := sA) (eA := eA) (ad := ad) (fv := fv) (iv := pd_fu (pd_fu iv 38 (nI (gm_name cs (sA 1) (eA 1)))) 40 (nI (gm_name cs (sA 1) (eA 1) + 1))) (tl := tl) f11 hL hW (by omega)) ok_Mod_isType ⟨mT_1352, sT_27⟩ mT_1350 ⟨by decide, by decide⟩ rfl hl.1 rfl (Nat.le_of_ble_eq_true rfl) d_p15m31_34 ⟨by decide, by decide⟩ (fun r35 h36 H locs hp37 w => ?_)
      refine W.widen (k := 0) (n := 0) (by decide) (by decide) ?_
      obtain ⟨e38, rfl⟩ := hp37
      refine pd_bne (tgt := 42) hx hb d_p15m31_37 (by decide) (fun q39 => ?_) (fun q39 => ?_)
      · -- taken: 42
        have hc2 : gm_type cs (sA 2) (eA 2) = some (eA 2) := of_decide_eq_true (e38.symm.trans q39)
        refine lv_iload_n hx hb d_p15m31_42 rfl (lv_at hl 1 rfl) ?_
        refine lv_iconst (v := nI 4) hx hb d_p15m31_43 (by decide) ?_
        refine pd_jne (tgt := 55) hx hb d_p15m31_44 (by decide) (by omega) (by omega) (fun q40 => ?_) (fun q40 => ?_)
        · -- taken: 55
          have hnw4 : ¬ nw = 4 := q40
          refine lv_iconst (v := nI 0) hx hb d_p15m31_55 (by decide) ?_
          refine lv_istore_n (lv' := [(3, .int (nI 0)), (0, .ref y), (1, .int (nI nw)), (2, .int (nI 0))]) hx hb d_p15m31_56 rfl hl (by decide) rfl (fun ls hl => ?_)
          refine lv_iload_n hx hb d_p15m31_57 rfl (lv_at hl 0 rfl) ?_
          refine pd_zge (tgt := 63) hx hb d_p15m31_58 (by decide) (by omega) ?_
          have hmk9 : (if nw = 4 then gm_mk cs (eA 3) (eA 3 - sA 3) (sA 3) 0 else some 0) = some 0 := by rw [if_neg hnw4]
          have hmm := hmk _ hmk9
          refine lv_aload_n hx hb d_p15m31_63 rfl (lv_at hl 1 rfl) ?_
          refine lv_aload_n hx hb d_p15m31_64 rfl (lv_at hl 1 rfl) ?_
          refine pd_get X w hy22 rfl 1 (by decide) mT_1140 rfl rfl d_p15m31_65 ?_
          refine lv_iconst (v := nI 1) hx hb d_p15m31_68 (by decide) ?_
          refine pd_iald X w ha24 (by omega) (by omega) d_p15m31_69 ?_
          refine pd_top (v' := .int (nI (sA 1))) (congrArg Value.int (hW.2 1 (by omega)).1) ?_
          refine lv_aload_n hx hb d_p15m31_70 rfl (lv_at hl 1 rfl) ?_
          refine pd_get X w hy22 rfl 38 (by decide) mT_1177 rfl rfl d_p15m31_71 ?_
          refine pd_cV (a := y) (As := [.int (nI (sA 1)), .int (nI (gm_name cs (sA 1) (eA 1)))]) (rest := []) X w hy22 rfl (c_Mod_find l G h7 (ad := ad) (fv := fv) (iv := pd_fu (pd_fu iv 38 (nI (gm_name cs (sA 1) (eA 1)))) 40 (nI (gm_name cs (sA 1) (eA 1) + 1))) (tl := tl) f11 hL hC (by omega) (by omega)) ok_Mod_find ⟨mT_1326, sT_21⟩ mT_1324 ⟨by decide, by decide⟩ rfl hl.1 rfl (Nat.le_of_ble_eq_true rfl) d_p15m31_74 ⟨by decide, by decide⟩ (fun r42 h43 H locs hp44 w => ?_)
          refine W.widen (k := 0) (n := 0) (by decide) (by decide) ?_
          obtain ⟨e45, rfl⟩ := hp44
          refine lv_istore (lv' := [(4, .int (pd_m r42)), (3, .int (nI 0)), (0, .ref y), (1, .int (nI nw)), (2, .int (nI 0))]) hx hb d_p15m31_77 hl (by decide) rfl (fun ls hl => ?_)
          refine lv_aload_n hx hb d_p15m31_79 rfl (lv_at hl 2 rfl) ?_
          refine pd_get X w hy22 rfl 2 (by decide) mT_1141 rfl rfl d_p15m31_80 ?_
          refine lv_iconst (v := nI 1) hx hb d_p15m31_83 (by decide) ?_
          refine pd_iald X w ha25 (by omega) (by omega) d_p15m31_84 ?_
          refine pd_top (v' := .int (nI (eA 1))) (congrArg Value.int (hW.2 1 (by omega)).2.1) ?_
          refine lv_istore (lv' := [(5, .int (nI (eA 1))), (4, .int (pd_m r42)), (3, .int (nI 0)), (0, .ref y), (1, .int (nI nw)), (2, .int (nI 0))]) hx hb d_p15m31_85 hl (by decide) rfl (fun ls hl => ?_)
          refine lv_iload hx hb d_p15m31_87 (lv_at hl 1 rfl) ?_
          refine pd_mge (tgt := 95) hx hb d_p15m31_89 (by decide) (fun x hx => by have z := gr_fi_lt (e45.symm.trans hx); omega) (fun q46 => ?_) (fun j47 q46 => ?_)
          · -- none: 92
            rw [q46] at e45
            rw [q46] at hl
            have hl : lv_has ls 9 [(5, .int (nI (eA 1))), (4, .int (-1)), (3, .int (nI 0)), (0, .ref y), (1, .int (nI nw)), (2, .int (nI 0))] := hl
            refine lv_bipush (v := -2) hx hb d_p15m31_92 (by decide) ?_
            have hg : gr_dm n R k M cs = (-2, k, M) := by unfold gr_dm; simp only [← (hbda hmem).1, ← (hbda hmem).2, ← hw2, e45.symm]
            exact pd_iret (v := (-2)) X w (Or.inr ⟨⟨hn34, hmem, hc2, by rw [hmk9]; simp⟩, by rw [hg], pd_kx.mono (us := [20, 43, 44, 45, 46, 47, 48, 49]) (k10) (by simp), _, _, f11, ⟨fun _ _ => rfl, fun j hj => by simp at hj; simp [pd_fu, hj]⟩, (by rw [hg]; exact hM)⟩) (by decide) (by decide) d_p15m31_94
          · -- some: 95
            rw [q46] at e45
            rw [q46] at hl
            have hl : lv_has ls 9 [(5, .int (nI (eA 1))), (4, .int (nI j47)), (3, .int (nI 0)), (0, .ref y), (1, .int (nI nw)), (2, .int (nI 0))] := hl
            have j47lt := gr_fi_lt e45.symm
            refine lv_aload_n hx hb d_p15m31_95 rfl (lv_at hl 3 rfl) ?_
            refine lv_iload hx hb d_p15m31_96 (lv_at hl 1 rfl) ?_
            refine lv_iload hx hb d_p15m31_98 (lv_at hl 0 rfl) ?_
            refine lv_iconst (v := nI 2) hx hb d_p15m31_100 (by decide) ?_
            refine lv_iload_n hx hb d_p15m31_101 rfl (lv_at hl 5 rfl) ?_
            refine pd_cV (a := y) (As := [.int (nI j47), .int (nI (eA 1)), .int (nI 2), .int (nI 0)]) (rest := []) X w hy22 rfl (c_Mod_ownW l G h7 (cs := cs) (n := n) (k := k) (M := M) (tf := gm_name cs (sA 1) (eA 1) + 1) (nw := nw) (sA := sA) (eA := eA) (mb := false) (ad := ad) (fv := fv) (iv := pd_fu (pd_fu iv 38 (nI (gm_name cs (sA 1) (eA 1)))) 40 (nI (gm_name cs (sA 1) (eA 1) + 1))) (tl := tl) f11 hL hM (by omega) (by omega) rfl (by omega) (by omega) hW (by omega) (by rw [hw2]; exact hism hc2)) ok_Mod_ownW ⟨mT_1360, sT_29⟩ mT_1358 ⟨by decide, by decide⟩ rfl hl.1 rfl (Nat.le_of_ble_eq_true rfl) d_p15m31_102 ⟨by decide, by decide⟩ (fun r48 h49 H locs hp50 w => ?_)
            refine W.widen (k := 0) (n := 0) (by decide) (by decide) ?_
            obtain ⟨e51, rfl⟩ := hp50
            refine pd_mlt (tgt := 111) hx hb d_p15m31_105 (by decide) (fun x hx => by have z := gr_fi_lt (e51.symm.trans hx); omega) (fun q52 => ?_) (fun j53 q52 => ?_)
            · -- none: 111
              rw [q52] at e51
              refine lv_iload_n hx hb d_p15m31_111 rfl (lv_at hl 5 rfl) ?_
              refine pd_zeq (tgt := 166) hx hb d_p15m31_112 (by decide) (by decide) (fun _ => ?_) (fun q => absurd q (by decide))
              refine lv_iconst (v := nI 0) hx hb d_p15m31_166 (by decide) ?_
              refine lv_istore (lv' := [(6, .int (nI 0)), (5, .int (nI (eA 1))), (4, .int (nI j47)), (3, .int (nI 0)), (0, .ref y), (1, .int (nI nw)), (2, .int (nI 0))]) hx hb d_p15m31_167 hl (by decide) rfl (fun ls hl => ?_)
              refine lv_iconst (v := nI 0) hx hb d_p15m31_169 (by decide) ?_
              refine lv_istore (lv' := [(7, .int (nI 0)), (6, .int (nI 0)), (5, .int (nI (eA 1))), (4, .int (nI j47)), (3, .int (nI 0)), (0, .ref y), (1, .int (nI nw)), (2, .int (nI 0))]) hx hb d_p15m31_170 hl (by decide) rfl (fun ls hl => ?_)
              exact lp_Mod_addF_172 l G h hMO hL hC hM hW hw2 hbda hism hmk X hmn (8 + 1) 0 false j47 0 h7 (pd_kx.mono (us := [20, 43, 44, 45, 46, 47, 48, 49]) (k10) (by simp)) (f11) (hn34) (hmem) (hc2) (hmk9) (e45) (e51) (by omega) (by omega) (fun z => by cases z) (fun _ z => by have z2 := hism hc2; rw [← hw2, z.2] at z2; exact absurd z2 (by decide)) (by omega) _ _ w ls (lv_sub hl [0, 1, 2, 3, 4, 5, 6, 7] rfl)
            · -- some: 108
              rw [q52] at e51
              have j53lt := gr_fi_lt e51.symm
              refine lv_bipush (v := -3) hx hb d_p15m31_108 (by decide) ?_
              have hg : gr_dm n R k M cs = (-3, k, M) := by unfold gr_dm; simp only [← (hbda hmem).1, ← (hbda hmem).2, ← hw2, e45.symm, e51.symm]
              exact pd_iret (v := (-3)) X w (Or.inr ⟨⟨hn34, hmem, hc2, by rw [hmk9]; simp⟩, by rw [hg], pd_kx.mono (us := [20, 43, 44, 45, 46, 47, 48, 49]) (k10) (by simp), _, _, f11, ⟨fun _ _ => rfl, fun j hj => by simp at hj; simp [pd_fu, hj]⟩, (by rw [hg]; exact hM)⟩) (by decide) (by decide) d_p15m31_110
        · -- not taken: 47
          have hnw4 : nw = 4 := q40
          refine lv_aload_n hx hb d_p15m31_47 rfl (lv_at hl 0 rfl) ?_
          refine lv_iconst (v := nI 3) hx hb d_p15m31_48 (by decide) ?_
          refine pd_cV (a := y) (As := [.int (nI 3)]) (rest := []) X w hy22 rfl (c_Mod_marksOf l G h7 (cs := cs) (nw := nw) (sA := sA) (eA := eA) (ad := ad) (fv := fv) (iv := pd_fu (pd_fu iv 38 (nI (gm_name cs (sA 1) (eA 1)))) 40 (nI (gm_name cs (sA 1) (eA 1) + 1))) (tl := tl) f11 hL hW (by omega)) ok_Mod_marksOf ⟨mT_1356, sT_28⟩ mT_1354 ⟨by decide, by decide⟩ rfl hl.1 rfl (Nat.le_of_ble_eq_true rfl) d_p15m31_49 ⟨by decide, by decide⟩ (fun r55 h56 H locs hp57 w => ?_)
          refine W.widen (k := 0) (n := 0) (by decide) (by decide) ?_
          obtain ⟨e58, rfl⟩ := hp57
          refine lv_goto (tgt := 56) hx hb d_p15m31_52 (by decide) ?_
          refine lv_istore_n (lv' := [(3, .int (pd_m r55)), (0, .ref y), (1, .int (nI nw)), (2, .int (nI 0))]) hx hb d_p15m31_56 rfl hl (by decide) rfl (fun ls hl => ?_)
          refine lv_iload_n hx hb d_p15m31_57 rfl (lv_at hl 0 rfl) ?_
          refine pd_mge (tgt := 63) hx hb d_p15m31_58 (by decide) (fun x hx => by have z := (hmk x (by rw [if_pos hnw4]; exact e58.symm.trans hx)).2; omega) (fun q59 => ?_) (fun j60 q59 => ?_)
          · -- none: 61
            rw [q59] at e58
            rw [q59] at hl
            have hl : lv_has ls 9 [(3, .int (-1)), (0, .ref y), (1, .int (nI nw)), (2, .int (nI 0))] := hl
            refine lv_iconst (v := -1) hx hb d_p15m31_61 (by decide) ?_
            exact pd_iret (v := (-1)) X w (Or.inl ⟨(fun z => z.2.2.2 (by rw [if_pos hnw4]; exact e58.symm)), rfl, pd_kx.mono (us := [20, 43, 44, 45, 46, 47, 48, 49]) (k10) (by simp), _, _, f11, ⟨fun _ _ => rfl, fun j hj => by simp at hj; simp [pd_fu, hj]⟩, hM⟩) (by decide) (by decide) d_p15m31_62
          · -- some: 63
            rw [q59] at e58
            rw [q59] at hl
            have hl : lv_has ls 9 [(3, .int (nI j60)), (0, .ref y), (1, .int (nI nw)), (2, .int (nI 0))] := hl
            have j60lt := (hmk _ (by rw [if_pos hnw4]; exact e58.symm)).2
            have hmk9 : (if nw = 4 then gm_mk cs (eA 3) (eA 3 - sA 3) (sA 3) 0 else some 0) = some j60 := by rw [if_pos hnw4]; exact (e58.symm)
            have hmm := hmk _ hmk9
            refine lv_aload_n hx hb d_p15m31_63 rfl (lv_at hl 1 rfl) ?_
            refine lv_aload_n hx hb d_p15m31_64 rfl (lv_at hl 1 rfl) ?_
            refine pd_get X w hy22 rfl 1 (by decide) mT_1140 rfl rfl d_p15m31_65 ?_
            refine lv_iconst (v := nI 1) hx hb d_p15m31_68 (by decide) ?_
            refine pd_iald X w ha24 (by omega) (by omega) d_p15m31_69 ?_
            refine pd_top (v' := .int (nI (sA 1))) (congrArg Value.int (hW.2 1 (by omega)).1) ?_
            refine lv_aload_n hx hb d_p15m31_70 rfl (lv_at hl 1 rfl) ?_
            refine pd_get X w hy22 rfl 38 (by decide) mT_1177 rfl rfl d_p15m31_71 ?_
            refine pd_cV (a := y) (As := [.int (nI (sA 1)), .int (nI (gm_name cs (sA 1) (eA 1)))]) (rest := []) X w hy22 rfl (c_Mod_find l G h7 (ad := ad) (fv := fv) (iv := pd_fu (pd_fu iv 38 (nI (gm_name cs (sA 1) (eA 1)))) 40 (nI (gm_name cs (sA 1) (eA 1) + 1))) (tl := tl) f11 hL hC (by omega) (by omega)) ok_Mod_find ⟨mT_1326, sT_21⟩ mT_1324 ⟨by decide, by decide⟩ rfl hl.1 rfl (Nat.le_of_ble_eq_true rfl) d_p15m31_74 ⟨by decide, by decide⟩ (fun r61 h62 H locs hp63 w => ?_)
            refine W.widen (k := 0) (n := 0) (by decide) (by decide) ?_
            obtain ⟨e64, rfl⟩ := hp63
            refine lv_istore (lv' := [(4, .int (pd_m r61)), (3, .int (nI j60)), (0, .ref y), (1, .int (nI nw)), (2, .int (nI 0))]) hx hb d_p15m31_77 hl (by decide) rfl (fun ls hl => ?_)
            refine lv_aload_n hx hb d_p15m31_79 rfl (lv_at hl 2 rfl) ?_
            refine pd_get X w hy22 rfl 2 (by decide) mT_1141 rfl rfl d_p15m31_80 ?_
            refine lv_iconst (v := nI 1) hx hb d_p15m31_83 (by decide) ?_
            refine pd_iald X w ha25 (by omega) (by omega) d_p15m31_84 ?_
            refine pd_top (v' := .int (nI (eA 1))) (congrArg Value.int (hW.2 1 (by omega)).2.1) ?_
            refine lv_istore (lv' := [(5, .int (nI (eA 1))), (4, .int (pd_m r61)), (3, .int (nI j60)), (0, .ref y), (1, .int (nI nw)), (2, .int (nI 0))]) hx hb d_p15m31_85 hl (by decide) rfl (fun ls hl => ?_)
            refine lv_iload hx hb d_p15m31_87 (lv_at hl 1 rfl) ?_
            refine pd_mge (tgt := 95) hx hb d_p15m31_89 (by decide) (fun x hx => by have z := gr_fi_lt (e64.symm.trans hx); omega) (fun q65 => ?_) (fun j66 q65 => ?_)
            · -- none: 92
              rw [q65] at e64
              rw [q65] at hl
              have hl : lv_has ls 9 [(5, .int (nI (eA 1))), (4, .int (-1)), (3, .int (nI j60)), (0, .ref y), (1, .int (nI nw)), (2, .int (nI 0))] := hl
              refine lv_bipush (v := -2) hx hb d_p15m31_92 (by decide) ?_
              have hg : gr_dm n R k M cs = (-2, k, M) := by unfold gr_dm; simp only [← (hbda hmem).1, ← (hbda hmem).2, ← hw2, e64.symm]
              exact pd_iret (v := (-2)) X w (Or.inr ⟨⟨hn34, hmem, hc2, by rw [hmk9]; simp⟩, by rw [hg], pd_kx.mono (us := [20, 43, 44, 45, 46, 47, 48, 49]) (k10) (by simp), _, _, f11, ⟨fun _ _ => rfl, fun j hj => by simp at hj; simp [pd_fu, hj]⟩, (by rw [hg]; exact hM)⟩) (by decide) (by decide) d_p15m31_94
            · -- some: 95
              rw [q65] at e64
              rw [q65] at hl
              have hl : lv_has ls 9 [(5, .int (nI (eA 1))), (4, .int (nI j66)), (3, .int (nI j60)), (0, .ref y), (1, .int (nI nw)), (2, .int (nI 0))] := hl
              have j66lt := gr_fi_lt e64.symm
              refine lv_aload_n hx hb d_p15m31_95 rfl (lv_at hl 3 rfl) ?_
              refine lv_iload hx hb d_p15m31_96 (lv_at hl 1 rfl) ?_
              refine lv_iload hx hb d_p15m31_98 (lv_at hl 0 rfl) ?_
              refine lv_iconst (v := nI 2) hx hb d_p15m31_100 (by decide) ?_
              refine lv_iload_n hx hb d_p15m31_101 rfl (lv_at hl 5 rfl) ?_
              refine pd_cV (a := y) (As := [.int (nI j66), .int (nI (eA 1)), .int (nI 2), .int (nI 0)]) (rest := []) X w hy22 rfl (c_Mod_ownW l G h7 (cs := cs) (n := n) (k := k) (M := M) (tf := gm_name cs (sA 1) (eA 1) + 1) (nw := nw) (sA := sA) (eA := eA) (mb := false) (ad := ad) (fv := fv) (iv := pd_fu (pd_fu iv 38 (nI (gm_name cs (sA 1) (eA 1)))) 40 (nI (gm_name cs (sA 1) (eA 1) + 1))) (tl := tl) f11 hL hM (by omega) (by omega) rfl (by omega) (by omega) hW (by omega) (by rw [hw2]; exact hism hc2)) ok_Mod_ownW ⟨mT_1360, sT_29⟩ mT_1358 ⟨by decide, by decide⟩ rfl hl.1 rfl (Nat.le_of_ble_eq_true rfl) d_p15m31_102 ⟨by decide, by decide⟩ (fun r67 h68 H locs hp69 w => ?_)
              refine W.widen (k := 0) (n := 0) (by decide) (by decide) ?_
              obtain ⟨e70, rfl⟩ := hp69
              refine pd_mlt (tgt := 111) hx hb d_p15m31_105 (by decide) (fun x hx => by have z := gr_fi_lt (e70.symm.trans hx); omega) (fun q71 => ?_) (fun j72 q71 => ?_)
              · -- none: 111
                rw [q71] at e70
                refine lv_iload_n hx hb d_p15m31_111 rfl (lv_at hl 5 rfl) ?_
                refine pd_zeq (tgt := 166) hx hb d_p15m31_112 (by decide) (by decide) (fun _ => ?_) (fun q => absurd q (by decide))
                refine lv_iconst (v := nI 0) hx hb d_p15m31_166 (by decide) ?_
                refine lv_istore (lv' := [(6, .int (nI 0)), (5, .int (nI (eA 1))), (4, .int (nI j66)), (3, .int (nI j60)), (0, .ref y), (1, .int (nI nw)), (2, .int (nI 0))]) hx hb d_p15m31_167 hl (by decide) rfl (fun ls hl => ?_)
                refine lv_iconst (v := nI 0) hx hb d_p15m31_169 (by decide) ?_
                refine lv_istore (lv' := [(7, .int (nI 0)), (6, .int (nI 0)), (5, .int (nI (eA 1))), (4, .int (nI j66)), (3, .int (nI j60)), (0, .ref y), (1, .int (nI nw)), (2, .int (nI 0))]) hx hb d_p15m31_170 hl (by decide) rfl (fun ls hl => ?_)
                exact lp_Mod_addF_172 l G h hMO hL hC hM hW hw2 hbda hism hmk X hmn (8 + 1) 0 false j66 j60 h7 (pd_kx.mono (us := [20, 43, 44, 45, 46, 47, 48, 49]) (k10) (by simp)) (f11) (hn34) (hmem) (hc2) (hmk9) (e64) (e70) (by omega) (by omega) (fun z => by cases z) (fun _ z => by have z2 := hism hc2; rw [← hw2, z.2] at z2; exact absurd z2 (by decide)) (by omega) _ _ w ls (lv_sub hl [0, 1, 2, 3, 4, 5, 6, 7] rfl)
              · -- some: 108
                rw [q71] at e70
                have j72lt := gr_fi_lt e70.symm
                refine lv_bipush (v := -3) hx hb d_p15m31_108 (by decide) ?_
                have hg : gr_dm n R k M cs = (-3, k, M) := by unfold gr_dm; simp only [← (hbda hmem).1, ← (hbda hmem).2, ← hw2, e64.symm, e70.symm]
                exact pd_iret (v := (-3)) X w (Or.inr ⟨⟨hn34, hmem, hc2, by rw [hmk9]; simp⟩, by rw [hg], pd_kx.mono (us := [20, 43, 44, 45, 46, 47, 48, 49]) (k10) (by simp), _, _, f11, ⟨fun _ _ => rfl, fun j hj => by simp at hj; simp [pd_fu, hj]⟩, (by rw [hg]; exact hM)⟩) (by decide) (by decide) d_p15m31_110
      · -- not taken: 40
        refine lv_iconst (v := -1) hx hb d_p15m31_40 (by decide) ?_
        exact pd_iret (v := (-1)) X w (Or.inl ⟨(fun z => of_decide_eq_false (e38.symm.trans q39) z.2.2.1), rfl, pd_kx.mono (us := [20, 43, 44, 45, 46, 47, 48, 49]) (k10) (by simp), _, _, f11, ⟨fun _ _ => rfl, fun j hj => by simp at hj; simp [pd_fu, hj]⟩, hM⟩) (by decide) (by decide) d_p15m31_41
abbrev y_Mod_addM : MethodName := ⟨"PolicyDeskModel", "add", "(IZ)I"⟩
theorem ok_Mod_addM : pd_ok y_Mod_addM prog_15_method_31_code 9 (some .int) 2 := ⟨mT_1337, mT_21, by decide, by decide +kernel⟩
abbrev rm_Mod_addM : Room := { frames := 6, cells := 0, slots := 0, locals := 136 }
set_option maxHeartbeats 4000000 in
set_option maxRecDepth 100000 in
theorem lp_Mod_addM_360 (l : Launch) (G : pd_G) (h : pd_H) {y : Nat} {ad : Nat → Nat} {fv : Nat → Nat → Int32} {iv : Nat → Int32} {tl : Int64} {cs : List Nat} {n : Nat} {R : Nat → pd_cr} {k : Nat} {M : Nat → pd_mr} {nw : Nat} {sA eA : Nat → Nat} (hMO : pd_MO G h y ad fv iv tl) (hL : gm_L fv iv cs) (hC : gm_C fv iv n R) (hM : gm_M fv iv n k M) (hW : gm_W fv cs nw sA eA) (hw2 : tx_sub cs (sA 2) (eA 2) = gr_w cs 2) (hbda : gm_mem cs (sA 1) (eA 1) = true → tx_sub cs (sA 1) (gm_name cs (sA 1) (eA 1)) = gr_bd (gr_w cs 1) ∧ tx_sub cs (gm_name cs (sA 1) (eA 1) + 1) (eA 1) = gr_ad (gr_w cs 1)) (hism : gm_shape cs (sA 2) (eA 2) = true → gr_ism (gr_w cs 2) = true) (hmk : ∀ t, (if nw = 4 then gm_mk cs (eA 3) (eA 3 - sA 3) (sA 3) 0 else some 0) = some t → t = gr_mk (gr_w cs 3) ∧ t < 4) (hsv : gm_shape cs (sA 2) (eA 2) = true → eA 2 - sA 2 = 3 → cs.getD (eA 2 - 1) 0 = 86 → gr_w cs 2 = [40, 41, 86]) {p : Program} {e : Env} {s : State} {m : MethodId} {below : List Frame} {meth : Method} {c : Code} (X : pd_B p s m [.ref y, .int (nI nw), .int (nI 1)].toArray meth c G y_Mod_addM.cls prog_15_method_31_code 9 (some .int)) (hmn : meth.name = y_Mod_addM.name) :
    ∀ (kk9 : Nat) (ii : Nat) (jc : Nat) (mm : Nat) (fo5 : Nat → Int32) (fo7 : Nat → Int32) (hh : pd_H), (pd_kx [20, 43, 44, 45, 46, 47, 48, 49] h hh) → (pd_MO G hh y ad (pd_fu (pd_fu (pd_fu (pd_fu (pd_fu (pd_fu (pd_fu fv 13 (upd (fv 13) k (nI jc))) 14 (upd (fv 14) k (nI mm))) 15 fo5) 16 (upd (fv 16) k (nI ((eA 1) - (gm_name cs (sA 1) (eA 1) + 1))))) 17 fo7) 18 (upd (fv 18) k (nI ((eA 2) - (sA 2))))) 19 (upd (fv 19) k (nI 1))) (pd_fu (pd_fu iv 38 (nI (gm_name cs (sA 1) (eA 1)))) 40 (nI (gm_name cs (sA 1) (eA 1) + 1))) tl) → (3 ≤ nw ∧ nw ≤ 4) → (gm_mem cs (sA 1) (eA 1) = true) → (gm_shape cs (sA 2) (eA 2) = true) → ((if nw = 4 then gm_mk cs (eA 3) (eA 3 - sA 3) (sA 3) 0 else some 0) = some mm) → (some jc = gr_find R n (tx_sub cs (sA 1) (gm_name cs (sA 1) (eA 1)))) → (none = gr_decl M k jc (tx_sub cs (gm_name cs (sA 1) (eA 1) + 1) (eA 1)) (tx_sub cs (sA 2) (eA 2))) → (jc < n) → (¬ (tx_sub cs (gm_name cs (sA 1) (eA 1) + 1) (eA 1) = [102, 105, 110, 97, 108, 105, 122, 101] ∧ tx_sub cs (sA 2) (eA 2) = [40, 41, 86])) → (k < 24) → (ii ≤ eA 2 - sA 2) → (∀ t, t < eA 1 - (gm_name cs (sA 1) (eA 1) + 1) → fo5 (12 * k + t) = nI (cs.getD (gm_name cs (sA 1) (eA 1) + 1 + t) 0)) → (∀ x, x < 12 * k → fo5 x = fv 15 x) → (∀ t, t < ii → fo7 (60 * k + t) = nI (cs.getD (sA 2 + t) 0)) → (∀ x, x < 60 * k → fo7 x = fv 17 x) → 100 - ii < kk9 → ∀ (H : Heap) (locs : List Loc), pd_w G s H locs hh → ∀ ls : Array Slot, lv_has ls 9 [(8, .int (nI ii)), (7, .int (nI k)), (5, .int (nI (eA 1))), (4, .int (nI jc)), (3, .int (nI mm)), (0, .ref y), (1, .int (nI nw)), (2, .int (nI 1))] → W p l e rm_Mod_addM s m [.ref y, .int (nI nw), .int (nI 1)].toArray below meth c H locs 0 0 (MQ below (pd_Q G Value.int (fun r h1 => (¬ ((3 ≤ nw ∧ nw ≤ 4) ∧ gm_mem cs (sA 1) (eA 1) = true ∧ (gm_shape cs (sA 2) (eA 2) = true) ∧ ¬ (if nw = 4 then gm_mk cs (eA 3) (eA 3 - sA 3) (sA 3) 0 else some 0) = none) ∧ r = -1 ∧ pd_kx [20, 43, 44, 45, 46, 47, 48, 49] h h1 ∧ ∃ fv2 iv2, pd_MO G h1 y ad fv2 iv2 tl ∧ gm_fr [13, 14, 15, 16, 17, 18, 19] [20, 38, 40] fv iv fv2 iv2 ∧ gm_M fv2 iv2 n k M) ∨ (((3 ≤ nw ∧ nw ≤ 4) ∧ gm_mem cs (sA 1) (eA 1) = true ∧ (gm_shape cs (sA 2) (eA 2) = true) ∧ ¬ (if nw = 4 then gm_mk cs (eA 3) (eA 3 - sA 3) (sA 3) 0 else some 0) = none) ∧ r = (gr_dm n R k M cs).1 ∧ pd_kx [20, 43, 44, 45, 46, 47, 48, 49] h h1 ∧ ∃ fv2 iv2, pd_MO G h1 y ad fv2 iv2 tl ∧ gm_fr [13, 14, 15, 16, 17, 18, 19] [20, 38, 40] fv iv fv2 iv2 ∧ gm_M fv2 iv2 n (gr_dm n R k M cs).2.1 (gr_dm n R k M cs).2.2))) [.ref y, .int (nI nw), .int (nI 1)].toArray s rm_Mod_addM.cells rm_Mod_addM.slots (fun q => G.2.1 ≤ q)) (F0 m 360 ls []) := by
  have hx := X.1
  have hb := X.2.1
  have hz_y := hMO.2.1
  have hy0 : h y = some (20, .inr (10, [.ref (ad 0), .ref (ad 1), .ref (ad 2), .int (iv 3), .int (iv 4), .int (iv 5), .ref (ad 6), .ref (ad 7), .ref (ad 8), .ref (ad 9), .ref (ad 10), .ref (ad 11), .int (iv 12), .ref (ad 13), .ref (ad 14), .ref (ad 15), .ref (ad 16), .ref (ad 17), .ref (ad 18), .ref (ad 19), .int (iv 20), .ref (ad 21), .ref (ad 22), .ref (ad 23), .ref (ad 24), .ref (ad 25), .ref (ad 26), .ref (ad 27), .ref (ad 28), .int (iv 29), .ref (ad 30), .ref (ad 31), .int (iv 32), .int (iv 33), .int (iv 34), .int (iv 35), .long tl, .int (iv 37), .int (iv 38), .int (iv 39), .int (iv 40), .ref (ad 41), .ref (ad 42), .int (iv 43)])) := hMO.1
  have ha0 : h (ad 0) = some (30, .inl (.int, 60, .inl (fv 0))) := (hMO.2.2 0 (by decide)).1
  have ha1 : h (ad 1) = some (31, .inl (.int, 40, .inl (fv 1))) := (hMO.2.2 1 (by decide)).1
  have ha2 : h (ad 2) = some (32, .inl (.int, 40, .inl (fv 2))) := (hMO.2.2 2 (by decide)).1
  have ha13 : h (ad 13) = some (43, .inl (.int, 24, .inl (fv 13))) := (hMO.2.2 13 (by decide)).1
  have ha14 : h (ad 14) = some (44, .inl (.int, 24, .inl (fv 14))) := (hMO.2.2 14 (by decide)).1
  have ha15 : h (ad 15) = some (45, .inl (.int, 288, .inl (fv 15))) := (hMO.2.2 15 (by decide)).1
  have ha16 : h (ad 16) = some (46, .inl (.int, 24, .inl (fv 16))) := (hMO.2.2 16 (by decide)).1
  have ha17 : h (ad 17) = some (47, .inl (.int, 1440, .inl (fv 17))) := (hMO.2.2 17 (by decide)).1
  have ha18 : h (ad 18) = some (48, .inl (.int, 24, .inl (fv 18))) := (hMO.2.2 18 (by decide)).1
  have ha19 : h (ad 19) = some (49, .inl (.boolean, 24, .inl (fv 19))) := (hMO.2.2 19 (by decide)).1
  obtain ⟨hiv3, hln, hl60, hlc⟩ := id hL
  obtain ⟨hiv12, hn2, hn14, hCc⟩ := id hC
  obtain ⟨hiv20, hk24, hMm⟩ := id hM
  have hw31 := hW.1
  intro kk9
  induction kk9 with
  | zero => intros; omega
  | succ kk9 ih =>
    intro ii jc mm fo5 fo7 hh hk2 hMO2 hn34 hmem hc2 hmk9 hfq hgq hjn hnf hk9 hi hf5 hk5 hf7 hk7 hmu H locs w ls hl
    have hz_y := hMO2.2.1
    have hy2 : hh y = some (20, .inr (10, [.ref (ad 0), .ref (ad 1), .ref (ad 2), .int (iv 3), .int (iv 4), .int (iv 5), .ref (ad 6), .ref (ad 7), .ref (ad 8), .ref (ad 9), .ref (ad 10), .ref (ad 11), .int (iv 12), .ref (ad 13), .ref (ad 14), .ref (ad 15), .ref (ad 16), .ref (ad 17), .ref (ad 18), .ref (ad 19), .int (iv 20), .ref (ad 21), .ref (ad 22), .ref (ad 23), .ref (ad 24), .ref (ad 25), .ref (ad 26), .ref (ad 27), .ref (ad 28), .int (iv 29), .ref (ad 30), .ref (ad 31), .int (iv 32), .int (iv 33), .int (iv 34), .int (iv 35), .long tl, .int (iv 37), .int (nI (gm_name cs (sA 1) (eA 1))), .int (iv 39), .int (nI (gm_name cs (sA 1) (eA 1) + 1)), .ref (ad 41), .ref (ad 42), .int (iv 43)])) := hMO2.1
    have ha0 : hh (ad 0) = some (30, .inl (.int, 60, .inl (fv 0))) := (hMO2.2.2 0 (by decide)).1
    have ha1 : hh (ad 1) = some (31, .inl (.int, 40, .inl (fv 1))) := (hMO2.2.2 1 (by decide)).1
    have ha2 : hh (ad 2) = some (32, .inl (.int, 40, .inl (fv 2))) := (hMO2.2.2 2 (by decide)).1
    have ha13 : hh (ad 13) = some (43, .inl (.int, 24, .inl (upd (fv 13) k (nI jc)))) := (hMO2.2.2 13 (by decide)).1
    have ha14 : hh (ad 14) = some (44, .inl (.int, 24, .inl (upd (fv 14) k (nI mm)))) := (hMO2.2.2 14 (by decide)).1
    have ha15 : hh (ad 15) = some (45, .inl (.int, 288, .inl (fo5))) := (hMO2.2.2 15 (by decide)).1
    have ha16 : hh (ad 16) = some (46, .inl (.int, 24, .inl (upd (fv 16) k (nI ((eA 1) - (gm_name cs (sA 1) (eA 1) + 1)))))) := (hMO2.2.2 16 (by decide)).1
    have ha17 : hh (ad 17) = some (47, .inl (.int, 1440, .inl (fo7))) := (hMO2.2.2 17 (by decide)).1
    have ha18 : hh (ad 18) = some (48, .inl (.int, 24, .inl (upd (fv 18) k (nI ((eA 2) - (sA 2)))))) := (hMO2.2.2 18 (by decide)).1
    have ha19 : hh (ad 19) = some (49, .inl (.boolean, 24, .inl (upd (fv 19) k (nI 1)))) := (hMO2.2.2 19 (by decide)).1
    have hmb := of_decide_eq_true hmem
    have hwl2 := (hW.2 2 (by omega)).2.2
    have hwl1 := (hW.2 1 (by omega)).2.2
    have hmm := (hmk mm hmk9)
    refine lv_iload hx hb d_p15m31_360 (lv_at hl 0 rfl) ?_
    refine lv_aload_n hx hb d_p15m31_362 rfl (lv_at hl 5 rfl) ?_
    refine pd_get X w hy2 rfl 18 (by decide) mT_1157 rfl rfl d_p15m31_363 ?_
    refine lv_iload hx hb d_p15m31_366 (lv_at hl 1 rfl) ?_
    refine pd_iald X w ha18 (by omega) (by omega) d_p15m31_368 ?_
    refine pd_top (v' := .int (nI ((eA 2) - (sA 2)))) (by rw [pk_us]) ?_
    refine pd_jge (tgt := 405) hx hb d_p15m31_369 (by decide) (by omega) (by omega) (fun q1 => ?_) (fun q1 => ?_)
    · -- taken: 405
      refine lv_aload_n hx hb d_p15m31_405 rfl (lv_at hl 5 rfl) ?_
      refine lv_dup hx hb d_p15m31_406 rfl ?_
      refine pd_get X w hy2 rfl 20 (by decide) mT_1159 rfl rfl d_p15m31_407 ?_
      refine pd_top (v' := .int (nI k)) (congrArg Value.int hiv20) ?_
      refine lv_iconst (v := nI 1) hx hb d_p15m31_410 (by decide) ?_
      refine pd_iadd hx hb d_p15m31_411 ?_
      refine pd_put (ty := .int) X w hy2 hz_y rfl 20 (by decide) mT_1159 rfl rfl (by decide +kernel) rfl rfl (Nat.le_of_ble_eq_true rfl) d_p15m31_412 (fun H locs w => ?_)
      have w : pd_w G s H locs (pd_up hh y (20, .inr (10, [.ref (ad 0), .ref (ad 1), .ref (ad 2), .int (iv 3), .int (iv 4), .int (iv 5), .ref (ad 6), .ref (ad 7), .ref (ad 8), .ref (ad 9), .ref (ad 10), .ref (ad 11), .int (iv 12), .ref (ad 13), .ref (ad 14), .ref (ad 15), .ref (ad 16), .ref (ad 17), .ref (ad 18), .ref (ad 19), .int (nI (k + 1)), .ref (ad 21), .ref (ad 22), .ref (ad 23), .ref (ad 24), .ref (ad 25), .ref (ad 26), .ref (ad 27), .ref (ad 28), .int (iv 29), .ref (ad 30), .ref (ad 31), .int (iv 32), .int (iv 33), .int (iv 34), .int (iv 35), .long tl, .int (iv 37), .int (nI (gm_name cs (sA 1) (eA 1))), .int (iv 39), .int (nI (gm_name cs (sA 1) (eA 1) + 1)), .ref (ad 41), .ref (ad 42), .int (iv 43)]))) := w
      obtain ⟨h2, u5⟩ : ∃ z, z = pd_up hh y (20, .inr (10, [.ref (ad 0), .ref (ad 1), .ref (ad 2), .int (iv 3), .int (iv 4), .int (iv 5), .ref (ad 6), .ref (ad 7), .ref (ad 8), .ref (ad 9), .ref (ad 10), .ref (ad 11), .int (iv 12), .ref (ad 13), .ref (ad 14), .ref (ad 15), .ref (ad 16), .ref (ad 17), .ref (ad 18), .ref (ad 19), .int (nI (k + 1)), .ref (ad 21), .ref (ad 22), .ref (ad 23), .ref (ad 24), .ref (ad 25), .ref (ad 26), .ref (ad 27), .ref (ad 28), .int (iv 29), .ref (ad 30), .ref (ad 31), .int (iv 32), .int (iv 33), .int (iv 34), .int (iv 35), .long tl, .int (iv 37), .int (nI (gm_name cs (sA 1) (eA 1))), .int (iv 39), .int (nI (gm_name cs (sA 1) (eA 1) + 1)), .ref (ad 41), .ref (ad 42), .int (iv 43)])) := ⟨_, rfl⟩
      rw [← u5] at w
      have k3 : pd_kq y hh h2 := by rw [u5]; exact pd_up_kq
      have f4 : h2 y = some (20, .inr (10, [.ref (ad 0), .ref (ad 1), .ref (ad 2), .int (iv 3), .int (iv 4), .int (iv 5), .ref (ad 6), .ref (ad 7), .ref (ad 8), .ref (ad 9), .ref (ad 10), .ref (ad 11), .int (iv 12), .ref (ad 13), .ref (ad 14), .ref (ad 15), .ref (ad 16), .ref (ad 17), .ref (ad 18), .ref (ad 19), .int (nI (k + 1)), .ref (ad 21), .ref (ad 22), .ref (ad 23), .ref (ad 24), .ref (ad 25), .ref (ad 26), .ref (ad 27), .ref (ad 28), .int (iv 29), .ref (ad 30), .ref (ad 31), .int (iv 32), .int (iv 33), .int (iv 34), .int (iv 35), .long tl, .int (iv 37), .int (nI (gm_name cs (sA 1) (eA 1))), .int (iv 39), .int (nI (gm_name cs (sA 1) (eA 1) + 1)), .ref (ad 41), .ref (ad 42), .int (iv 43)])) := by rw [u5]; exact pd_up_s _ _ _
      have f6 := k3 _ _ (pd_ne ha0 hy2 (by simp)) ha0
      have f7 := k3 _ _ (pd_ne ha1 hy2 (by simp)) ha1
      have f8 := k3 _ _ (pd_ne ha2 hy2 (by simp)) ha2
      have f9 := k3 _ _ (pd_ne ha13 hy2 (by simp)) ha13
      have f10 := k3 _ _ (pd_ne ha14 hy2 (by simp)) ha14
      have f11 := k3 _ _ (pd_ne ha15 hy2 (by simp)) ha15
      have f12 := k3 _ _ (pd_ne ha16 hy2 (by simp)) ha16
      have f13 := k3 _ _ (pd_ne ha17 hy2 (by simp)) ha17
      have f14 := k3 _ _ (pd_ne ha18 hy2 (by simp)) ha18
      have f15 := k3 _ _ (pd_ne ha19 hy2 (by simp)) ha19
      refine lv_iload hx hb d_p15m31_415 (lv_at hl 1 rfl) ?_
      have hg : gr_dm n R k M cs = (nI k, k + 1, pd_fu M k (jc, tx_sub cs (gm_name cs (sA 1) (eA 1) + 1) (eA 1), tx_sub cs (sA 2) (eA 2), mm)) := by unfold gr_dm; simp only [← (hbda hmem).1, ← (hbda hmem).2, ← hw2, hfq.symm, hgq.symm]; rw [if_neg hnf, gr_madd_y hk9, ← hmm.1]
      have mo16 : pd_MO G h2 y ad (pd_fu (pd_fu (pd_fu (pd_fu (pd_fu (pd_fu (pd_fu fv 13 (upd (fv 13) k (nI jc))) 14 (upd (fv 14) k (nI mm))) 15 fo5) 16 (upd (fv 16) k (nI ((eA 1) - (gm_name cs (sA 1) (eA 1) + 1))))) 17 fo7) 18 (upd (fv 18) k (nI ((eA 2) - (sA 2))))) 19 (upd (fv 19) k (nI 1))) (pd_fu (pd_fu (pd_fu iv 38 (nI (gm_name cs (sA 1) (eA 1)))) 40 (nI (gm_name cs (sA 1) (eA 1) + 1))) 20 (nI (k + 1))) tl := pd_MO.of (ts := [20]) hMO2 (pd_kq.kx (k3) hy2) f4 (fun j hj => Or.inr ⟨fun z => by first | (simp at z; done) | (simp at z; omega), rfl⟩)
      exact pd_iret (v := (nI k)) X w (Or.inr ⟨⟨hn34, hmem, hc2, by rw [hmk9]; simp⟩, by rw [hg], hk2.tr (pd_kx.mono (us := [20, 43, 44, 45, 46, 47, 48, 49]) (pd_kq.kx (k3) hy2) (by simp)), _, _, mo16, ⟨fun j hj => by simp at hj; simp [pd_fu, hj], fun j hj => by simp at hj; simp [pd_fu, hj]⟩, (by rw [hg]; exact gm_M_add hM hk9 rfl rfl hjn rfl hmm.2 (by rw [tx_sub_len (by omega)]; rfl) (by rw [tx_sub_len (by omega)]; omega) (tx_sub_lt hlc) (fun t ht => by rw [tx_sub_len (by omega)] at ht; rw [tx_sub_get ht]; exact hf5 t ht) hk5 (by rw [tx_sub_len (by omega)]; rfl) (by rw [tx_sub_len (by omega)]; omega) (tx_sub_lt hlc) (fun t ht => by rw [tx_sub_len (by omega)] at ht; rw [tx_sub_get ht]; exact hf7 t (by omega)) hk7 (by rw [hw2, hism hc2]; rfl))⟩) (by decide) (by decide) d_p15m31_417
    · -- not taken: 372
      refine lv_aload_n hx hb d_p15m31_372 rfl (lv_at hl 5 rfl) ?_
      refine pd_get X w hy2 rfl 17 (by decide) mT_1156 rfl rfl d_p15m31_373 ?_
      refine lv_bipush (v := nI 60) hx hb d_p15m31_376 (by decide) ?_
      refine lv_iload hx hb d_p15m31_378 (lv_at hl 1 rfl) ?_
      refine pd_imul hx hb d_p15m31_380 ?_
      refine lv_iload hx hb d_p15m31_381 (lv_at hl 0 rfl) ?_
      refine pd_iadd hx hb d_p15m31_383 ?_
      refine lv_aload_n hx hb d_p15m31_384 rfl (lv_at hl 5 rfl) ?_
      refine pd_get X w hy2 rfl 0 (by decide) mT_1139 rfl rfl d_p15m31_385 ?_
      refine lv_aload_n hx hb d_p15m31_388 rfl (lv_at hl 5 rfl) ?_
      refine pd_get X w hy2 rfl 1 (by decide) mT_1140 rfl rfl d_p15m31_389 ?_
      refine lv_iconst (v := nI 2) hx hb d_p15m31_392 (by decide) ?_
      refine pd_iald X w ha1 (by omega) (by omega) d_p15m31_393 ?_
      refine pd_top (v' := .int (nI (sA 2))) (congrArg Value.int (hW.2 2 (by omega)).1) ?_
      refine lv_iload hx hb d_p15m31_394 (lv_at hl 0 rfl) ?_
      refine pd_iadd hx hb d_p15m31_396 ?_
      refine pd_iald X w ha0 (by omega) (by omega) d_p15m31_397 ?_
      refine pd_top (v' := .int (nI (cs.getD ((sA 2) + ii) 0))) (congrArg Value.int (hln _ (by omega))) ?_
      have := tx_lt hlc ((sA 2) + ii)
      refine pd_iast X w ha17 (hMO.2.2 17 (by decide)).2 (by omega) (by omega) d_p15m31_398 (fun H locs w => ?_)
      have w : pd_w G s H locs (pd_up hh (ad 17) (47, .inl (.int, 1440, .inl (upd fo7 ((60 * k) + ii) (nI (cs.getD ((sA 2) + ii) 0)))))) := w
      obtain ⟨h17, u20⟩ : ∃ z, z = pd_up hh (ad 17) (47, .inl (.int, 1440, .inl (upd fo7 ((60 * k) + ii) (nI (cs.getD ((sA 2) + ii) 0))))) := ⟨_, rfl⟩
      rw [← u20] at w
      have k18 : pd_kq (ad 17) hh h17 := by rw [u20]; exact pd_up_kq
      have f19 : h17 (ad 17) = some (47, .inl (.int, 1440, .inl (upd fo7 ((60 * k) + ii) (nI (cs.getD ((sA 2) + ii) 0))))) := by rw [u20]; exact pd_up_s _ _ _
      have f21 := k18 _ _ (pd_ne hy2 ha17 (by simp)) hy2
      have f22 := k18 _ _ (pd_ne ha0 ha17 (by simp)) ha0
      have f23 := k18 _ _ (pd_ne ha1 ha17 (by simp)) ha1
      have f24 := k18 _ _ (pd_ne ha2 ha17 (by simp)) ha2
      have f25 := k18 _ _ (pd_ne ha13 ha17 (by simp)) ha13
      have f26 := k18 _ _ (pd_ne ha14 ha17 (by simp)) ha14
      have f27 := k18 _ _ (pd_ne ha15 ha17 (by simp)) ha15
      have f28 := k18 _ _ (pd_ne ha16 ha17 (by simp)) ha16
      have f29 := k18 _ _ (pd_ne ha18 ha17 (by simp)) ha18
      have f30 := k18 _ _ (pd_ne ha19 ha17 (by simp)) ha19
      refine pd_iinc (k := 0) (d := 1) (lv' := [(8, .int (nI (ii + 1))), (7, .int (nI k)), (5, .int (nI (eA 1))), (4, .int (nI jc)), (3, .int (nI mm)), (0, .ref y), (1, .int (nI nw)), (2, .int (nI 1))]) hx hb d_p15m31_399 (by decide) hl rfl (by decide) rfl (fun ls hl => ?_)
      refine lv_goto (tgt := 360) hx hb d_p15m31_402 (by decide) ?_
      have mo31 : pd_MO G h17 y ad (pd_fu (pd_fu (pd_fu (pd_fu (pd_fu (pd_fu (pd_fu (pd_fu fv 13 (upd (fv 13) k (nI jc))) 14 (upd (fv 14) k (nI mm))) 15 fo5) 16 (upd (fv 16) k (nI ((eA 1) - (gm_name cs (sA 1) (eA 1) + 1))))) 17 fo7) 18 (upd (fv 18) k (nI ((eA 2) - (sA 2))))) 19 (upd (fv 19) k (nI 1))) 17 (upd fo7 ((60 * k) + ii) (nI (cs.getD ((sA 2) + ii) 0)))) (pd_fu (pd_fu iv 38 (nI (gm_name cs (sA 1) (eA 1)))) 40 (nI (gm_name cs (sA 1) (eA 1) + 1))) tl := pd_MO.of (ts := [47]) hMO2 (pd_kq.kx (k18) ha17) f21 (fun j hj => if e17 : j = 17 then by subst e17; exact Or.inl f19 else Or.inr ⟨fun z => by first | (simp at z; done) | (simp at z; omega), by rw [pd_fu_n e17]⟩)
      exact ih (ii + 1) jc mm fo5 (upd fo7 ((60 * k) + ii) (nI (cs.getD ((sA 2) + ii) 0))) h17 (hk2.tr (pd_kx.mono (us := [20, 43, 44, 45, 46, 47, 48, 49]) (pd_kq.kx (k18) ha17) (by simp))) ((pd_MO.ext (fv2 := pd_fu (pd_fu (pd_fu (pd_fu (pd_fu (pd_fu (pd_fu fv 13 (upd (fv 13) k (nI jc))) 14 (upd (fv 14) k (nI mm))) 15 fo5) 16 (upd (fv 16) k (nI ((eA 1) - (gm_name cs (sA 1) (eA 1) + 1))))) 17 (upd fo7 ((60 * k) + ii) (nI (cs.getD ((sA 2) + ii) 0)))) 18 (upd (fv 18) k (nI ((eA 2) - (sA 2))))) 19 (upd (fv 19) k (nI 1))) (iv2 := pd_fu (pd_fu iv 38 (nI (gm_name cs (sA 1) (eA 1)))) 40 (nI (gm_name cs (sA 1) (eA 1) + 1))) mo31 (fun j9 hj9 => by by_cases e913 : j9 = 13; subst e913; rfl; by_cases e914 : j9 = 14; subst e914; rfl; by_cases e915 : j9 = 15; subst e915; rfl; by_cases e916 : j9 = 16; subst e916; rfl; by_cases e917 : j9 = 17; subst e917; rfl; by_cases e918 : j9 = 18; subst e918; rfl; by_cases e919 : j9 = 19; subst e919; rfl; simp only [pd_fu, if_neg e913, if_neg e914, if_neg e915, if_neg e916, if_neg e917, if_neg e918, if_neg e919]) rfl)) (hn34) (hmem) (hc2) (hmk9) (hfq) (hgq) (by omega) (hnf) (by omega) (by omega) (hf5) (hk5) (fun t ht => by by_cases e9 : t = ii; subst e9; rw [pk_us]; rw [pk_un (by omega)]; exact hf7 t (by omega)) (fun x hx => by rw [pk_un (by omega)]; exact hk7 x hx) (by omega) _ _ w ls (lv_sub hl [0, 1, 2, 3, 4, 5, 6, 7] rfl)
set_option maxHeartbeats 4000000 in
set_option maxRecDepth 100000 in
theorem lp_Mod_addM_294 (l : Launch) (G : pd_G) (h : pd_H) {y : Nat} {ad : Nat → Nat} {fv : Nat → Nat → Int32} {iv : Nat → Int32} {tl : Int64} {cs : List Nat} {n : Nat} {R : Nat → pd_cr} {k : Nat} {M : Nat → pd_mr} {nw : Nat} {sA eA : Nat → Nat} (hMO : pd_MO G h y ad fv iv tl) (hL : gm_L fv iv cs) (hC : gm_C fv iv n R) (hM : gm_M fv iv n k M) (hW : gm_W fv cs nw sA eA) (hw2 : tx_sub cs (sA 2) (eA 2) = gr_w cs 2) (hbda : gm_mem cs (sA 1) (eA 1) = true → tx_sub cs (sA 1) (gm_name cs (sA 1) (eA 1)) = gr_bd (gr_w cs 1) ∧ tx_sub cs (gm_name cs (sA 1) (eA 1) + 1) (eA 1) = gr_ad (gr_w cs 1)) (hism : gm_shape cs (sA 2) (eA 2) = true → gr_ism (gr_w cs 2) = true) (hmk : ∀ t, (if nw = 4 then gm_mk cs (eA 3) (eA 3 - sA 3) (sA 3) 0 else some 0) = some t → t = gr_mk (gr_w cs 3) ∧ t < 4) (hsv : gm_shape cs (sA 2) (eA 2) = true → eA 2 - sA 2 = 3 → cs.getD (eA 2 - 1) 0 = 86 → gr_w cs 2 = [40, 41, 86]) {p : Program} {e : Env} {s : State} {m : MethodId} {below : List Frame} {meth : Method} {c : Code} (X : pd_B p s m [.ref y, .int (nI nw), .int (nI 1)].toArray meth c G y_Mod_addM.cls prog_15_method_31_code 9 (some .int)) (hmn : meth.name = y_Mod_addM.name) :
    ∀ (kk9 : Nat) (ii : Nat) (jc : Nat) (mm : Nat) (fo5 : Nat → Int32) (hh : pd_H), (pd_kx [20, 43, 44, 45, 46, 47, 48, 49] h hh) → (pd_MO G hh y ad (pd_fu (pd_fu (pd_fu (pd_fu (pd_fu fv 13 (upd (fv 13) k (nI jc))) 14 (upd (fv 14) k (nI mm))) 15 fo5) 16 (upd (fv 16) k (nI ((eA 1) - (gm_name cs (sA 1) (eA 1) + 1))))) 19 (upd (fv 19) k (nI 1))) (pd_fu (pd_fu iv 38 (nI (gm_name cs (sA 1) (eA 1)))) 40 (nI (gm_name cs (sA 1) (eA 1) + 1))) tl) → (3 ≤ nw ∧ nw ≤ 4) → (gm_mem cs (sA 1) (eA 1) = true) → (gm_shape cs (sA 2) (eA 2) = true) → ((if nw = 4 then gm_mk cs (eA 3) (eA 3 - sA 3) (sA 3) 0 else some 0) = some mm) → (some jc = gr_find R n (tx_sub cs (sA 1) (gm_name cs (sA 1) (eA 1)))) → (none = gr_decl M k jc (tx_sub cs (gm_name cs (sA 1) (eA 1) + 1) (eA 1)) (tx_sub cs (sA 2) (eA 2))) → (jc < n) → (¬ (tx_sub cs (gm_name cs (sA 1) (eA 1) + 1) (eA 1) = [102, 105, 110, 97, 108, 105, 122, 101] ∧ tx_sub cs (sA 2) (eA 2) = [40, 41, 86])) → (k < 24) → (ii ≤ eA 1 - (gm_name cs (sA 1) (eA 1) + 1)) → (∀ t, t < ii → fo5 (12 * k + t) = nI (cs.getD (gm_name cs (sA 1) (eA 1) + 1 + t) 0)) → (∀ x, x < 12 * k → fo5 x = fv 15 x) → 100 - ii < kk9 → ∀ (H : Heap) (locs : List Loc), pd_w G s H locs hh → ∀ ls : Array Slot, lv_has ls 9 [(8, .int (nI ii)), (7, .int (nI k)), (5, .int (nI (eA 1))), (4, .int (nI jc)), (3, .int (nI mm)), (0, .ref y), (1, .int (nI nw)), (2, .int (nI 1))] → W p l e rm_Mod_addM s m [.ref y, .int (nI nw), .int (nI 1)].toArray below meth c H locs 0 0 (MQ below (pd_Q G Value.int (fun r h1 => (¬ ((3 ≤ nw ∧ nw ≤ 4) ∧ gm_mem cs (sA 1) (eA 1) = true ∧ (gm_shape cs (sA 2) (eA 2) = true) ∧ ¬ (if nw = 4 then gm_mk cs (eA 3) (eA 3 - sA 3) (sA 3) 0 else some 0) = none) ∧ r = -1 ∧ pd_kx [20, 43, 44, 45, 46, 47, 48, 49] h h1 ∧ ∃ fv2 iv2, pd_MO G h1 y ad fv2 iv2 tl ∧ gm_fr [13, 14, 15, 16, 17, 18, 19] [20, 38, 40] fv iv fv2 iv2 ∧ gm_M fv2 iv2 n k M) ∨ (((3 ≤ nw ∧ nw ≤ 4) ∧ gm_mem cs (sA 1) (eA 1) = true ∧ (gm_shape cs (sA 2) (eA 2) = true) ∧ ¬ (if nw = 4 then gm_mk cs (eA 3) (eA 3 - sA 3) (sA 3) 0 else some 0) = none) ∧ r = (gr_dm n R k M cs).1 ∧ pd_kx [20, 43, 44, 45, 46, 47, 48, 49] h h1 ∧ ∃ fv2 iv2, pd_MO G h1 y ad fv2 iv2 tl ∧ gm_fr [13, 14, 15, 16, 17, 18, 19] [20, 38, 40] fv iv fv2 iv2 ∧ gm_M fv2 iv2 n (gr_dm n R k M cs).2.1 (gr_dm n R k M cs).2.2))) [.ref y, .int (nI nw), .int (nI 1)].toArray s rm_Mod_addM.cells rm_Mod_addM.slots (fun q => G.2.1 ≤ q)) (F0 m 294 ls []) := by
  have hx := X.1
  have hb := X.2.1
  have hz_y := hMO.2.1
  have hy0 : h y = some (20, .inr (10, [.ref (ad 0), .ref (ad 1), .ref (ad 2), .int (iv 3), .int (iv 4), .int (iv 5), .ref (ad 6), .ref (ad 7), .ref (ad 8), .ref (ad 9), .ref (ad 10), .ref (ad 11), .int (iv 12), .ref (ad 13), .ref (ad 14), .ref (ad 15), .ref (ad 16), .ref (ad 17), .ref (ad 18), .ref (ad 19), .int (iv 20), .ref (ad 21), .ref (ad 22), .ref (ad 23), .ref (ad 24), .ref (ad 25), .ref (ad 26), .ref (ad 27), .ref (ad 28), .int (iv 29), .ref (ad 30), .ref (ad 31), .int (iv 32), .int (iv 33), .int (iv 34), .int (iv 35), .long tl, .int (iv 37), .int (iv 38), .int (iv 39), .int (iv 40), .ref (ad 41), .ref (ad 42), .int (iv 43)])) := hMO.1
  have ha0 : h (ad 0) = some (30, .inl (.int, 60, .inl (fv 0))) := (hMO.2.2 0 (by decide)).1
  have ha1 : h (ad 1) = some (31, .inl (.int, 40, .inl (fv 1))) := (hMO.2.2 1 (by decide)).1
  have ha2 : h (ad 2) = some (32, .inl (.int, 40, .inl (fv 2))) := (hMO.2.2 2 (by decide)).1
  have ha13 : h (ad 13) = some (43, .inl (.int, 24, .inl (fv 13))) := (hMO.2.2 13 (by decide)).1
  have ha14 : h (ad 14) = some (44, .inl (.int, 24, .inl (fv 14))) := (hMO.2.2 14 (by decide)).1
  have ha15 : h (ad 15) = some (45, .inl (.int, 288, .inl (fv 15))) := (hMO.2.2 15 (by decide)).1
  have ha16 : h (ad 16) = some (46, .inl (.int, 24, .inl (fv 16))) := (hMO.2.2 16 (by decide)).1
  have ha17 : h (ad 17) = some (47, .inl (.int, 1440, .inl (fv 17))) := (hMO.2.2 17 (by decide)).1
  have ha18 : h (ad 18) = some (48, .inl (.int, 24, .inl (fv 18))) := (hMO.2.2 18 (by decide)).1
  have ha19 : h (ad 19) = some (49, .inl (.boolean, 24, .inl (fv 19))) := (hMO.2.2 19 (by decide)).1
  obtain ⟨hiv3, hln, hl60, hlc⟩ := id hL
  obtain ⟨hiv12, hn2, hn14, hCc⟩ := id hC
  obtain ⟨hiv20, hk24, hMm⟩ := id hM
  have hw31 := hW.1
  intro kk9
  induction kk9 with
  | zero => intros; omega
  | succ kk9 ih =>
    intro ii jc mm fo5 hh hk2 hMO2 hn34 hmem hc2 hmk9 hfq hgq hjn hnf hk9 hi hf5 hk5 hmu H locs w ls hl
    have hz_y := hMO2.2.1
    have hy2 : hh y = some (20, .inr (10, [.ref (ad 0), .ref (ad 1), .ref (ad 2), .int (iv 3), .int (iv 4), .int (iv 5), .ref (ad 6), .ref (ad 7), .ref (ad 8), .ref (ad 9), .ref (ad 10), .ref (ad 11), .int (iv 12), .ref (ad 13), .ref (ad 14), .ref (ad 15), .ref (ad 16), .ref (ad 17), .ref (ad 18), .ref (ad 19), .int (iv 20), .ref (ad 21), .ref (ad 22), .ref (ad 23), .ref (ad 24), .ref (ad 25), .ref (ad 26), .ref (ad 27), .ref (ad 28), .int (iv 29), .ref (ad 30), .ref (ad 31), .int (iv 32), .int (iv 33), .int (iv 34), .int (iv 35), .long tl, .int (iv 37), .int (nI (gm_name cs (sA 1) (eA 1))), .int (iv 39), .int (nI (gm_name cs (sA 1) (eA 1) + 1)), .ref (ad 41), .ref (ad 42), .int (iv 43)])) := hMO2.1
    have ha0 : hh (ad 0) = some (30, .inl (.int, 60, .inl (fv 0))) := (hMO2.2.2 0 (by decide)).1
    have ha1 : hh (ad 1) = some (31, .inl (.int, 40, .inl (fv 1))) := (hMO2.2.2 1 (by decide)).1
    have ha2 : hh (ad 2) = some (32, .inl (.int, 40, .inl (fv 2))) := (hMO2.2.2 2 (by decide)).1
    have ha13 : hh (ad 13) = some (43, .inl (.int, 24, .inl (upd (fv 13) k (nI jc)))) := (hMO2.2.2 13 (by decide)).1
    have ha14 : hh (ad 14) = some (44, .inl (.int, 24, .inl (upd (fv 14) k (nI mm)))) := (hMO2.2.2 14 (by decide)).1
    have ha15 : hh (ad 15) = some (45, .inl (.int, 288, .inl (fo5))) := (hMO2.2.2 15 (by decide)).1
    have ha16 : hh (ad 16) = some (46, .inl (.int, 24, .inl (upd (fv 16) k (nI ((eA 1) - (gm_name cs (sA 1) (eA 1) + 1)))))) := (hMO2.2.2 16 (by decide)).1
    have ha17 : hh (ad 17) = some (47, .inl (.int, 1440, .inl (fv 17))) := (hMO2.2.2 17 (by decide)).1
    have ha18 : hh (ad 18) = some (48, .inl (.int, 24, .inl (fv 18))) := (hMO2.2.2 18 (by decide)).1
    have ha19 : hh (ad 19) = some (49, .inl (.boolean, 24, .inl (upd (fv 19) k (nI 1)))) := (hMO2.2.2 19 (by decide)).1
    have hmb := of_decide_eq_true hmem
    have hwl2 := (hW.2 2 (by omega)).2.2
    have hwl1 := (hW.2 1 (by omega)).2.2
    have hmm := (hmk mm hmk9)
    refine lv_iload hx hb d_p15m31_294 (lv_at hl 0 rfl) ?_
    refine lv_aload_n hx hb d_p15m31_296 rfl (lv_at hl 5 rfl) ?_
    refine pd_get X w hy2 rfl 16 (by decide) mT_1155 rfl rfl d_p15m31_297 ?_
    refine lv_iload hx hb d_p15m31_300 (lv_at hl 1 rfl) ?_
    refine pd_iald X w ha16 (by omega) (by omega) d_p15m31_302 ?_
    refine pd_top (v' := .int (nI ((eA 1) - (gm_name cs (sA 1) (eA 1) + 1)))) (by rw [pk_us]) ?_
    refine pd_jge (tgt := 337) hx hb d_p15m31_303 (by decide) (by omega) (by omega) (fun q1 => ?_) (fun q1 => ?_)
    · -- taken: 337
      refine lv_aload_n hx hb d_p15m31_337 rfl (lv_at hl 5 rfl) ?_
      refine pd_get X w hy2 rfl 18 (by decide) mT_1157 rfl rfl d_p15m31_338 ?_
      refine lv_iload hx hb d_p15m31_341 (lv_at hl 1 rfl) ?_
      refine lv_aload_n hx hb d_p15m31_343 rfl (lv_at hl 5 rfl) ?_
      refine pd_get X w hy2 rfl 2 (by decide) mT_1141 rfl rfl d_p15m31_344 ?_
      refine lv_iconst (v := nI 2) hx hb d_p15m31_347 (by decide) ?_
      refine pd_iald X w ha2 (by omega) (by omega) d_p15m31_348 ?_
      refine pd_top (v' := .int (nI (eA 2))) (congrArg Value.int (hW.2 2 (by omega)).2.1) ?_
      refine lv_aload_n hx hb d_p15m31_349 rfl (lv_at hl 5 rfl) ?_
      refine pd_get X w hy2 rfl 1 (by decide) mT_1140 rfl rfl d_p15m31_350 ?_
      refine lv_iconst (v := nI 2) hx hb d_p15m31_353 (by decide) ?_
      refine pd_iald X w ha1 (by omega) (by omega) d_p15m31_354 ?_
      refine pd_top (v' := .int (nI (sA 2))) (congrArg Value.int (hW.2 2 (by omega)).1) ?_
      refine pd_isub hx hb d_p15m31_355 (by omega) ?_
      refine pd_iast X w ha18 (hMO.2.2 18 (by decide)).2 (by omega) (by omega) d_p15m31_356 (fun H locs w => ?_)
      have w : pd_w G s H locs (pd_up hh (ad 18) (48, .inl (.int, 24, .inl (upd (fv 18) k (nI ((eA 2) - (sA 2))))))) := w
      obtain ⟨h2, u5⟩ : ∃ z, z = pd_up hh (ad 18) (48, .inl (.int, 24, .inl (upd (fv 18) k (nI ((eA 2) - (sA 2)))))) := ⟨_, rfl⟩
      rw [← u5] at w
      have k3 : pd_kq (ad 18) hh h2 := by rw [u5]; exact pd_up_kq
      have f4 : h2 (ad 18) = some (48, .inl (.int, 24, .inl (upd (fv 18) k (nI ((eA 2) - (sA 2)))))) := by rw [u5]; exact pd_up_s _ _ _
      have f6 := k3 _ _ (pd_ne hy2 ha18 (by simp)) hy2
      have f7 := k3 _ _ (pd_ne ha0 ha18 (by simp)) ha0
      have f8 := k3 _ _ (pd_ne ha1 ha18 (by simp)) ha1
      have f9 := k3 _ _ (pd_ne ha2 ha18 (by simp)) ha2
      have f10 := k3 _ _ (pd_ne ha13 ha18 (by simp)) ha13
      have f11 := k3 _ _ (pd_ne ha14 ha18 (by simp)) ha14
      have f12 := k3 _ _ (pd_ne ha15 ha18 (by simp)) ha15
      have f13 := k3 _ _ (pd_ne ha16 ha18 (by simp)) ha16
      have f14 := k3 _ _ (pd_ne ha17 ha18 (by simp)) ha17
      have f15 := k3 _ _ (pd_ne ha19 ha18 (by simp)) ha19
      refine lv_iconst (v := nI 0) hx hb d_p15m31_357 (by decide) ?_
      refine lv_istore (lv' := [(8, .int (nI 0)), (7, .int (nI k)), (5, .int (nI (eA 1))), (4, .int (nI jc)), (3, .int (nI mm)), (0, .ref y), (1, .int (nI nw)), (2, .int (nI 1))]) hx hb d_p15m31_358 hl (by decide) rfl (fun ls hl => ?_)
      have mo16 : pd_MO G h2 y ad (pd_fu (pd_fu (pd_fu (pd_fu (pd_fu (pd_fu fv 13 (upd (fv 13) k (nI jc))) 14 (upd (fv 14) k (nI mm))) 15 fo5) 16 (upd (fv 16) k (nI ((eA 1) - (gm_name cs (sA 1) (eA 1) + 1))))) 19 (upd (fv 19) k (nI 1))) 18 (upd (fv 18) k (nI ((eA 2) - (sA 2))))) (pd_fu (pd_fu iv 38 (nI (gm_name cs (sA 1) (eA 1)))) 40 (nI (gm_name cs (sA 1) (eA 1) + 1))) tl := pd_MO.of (ts := [48]) hMO2 (pd_kq.kx (k3) ha18) f6 (fun j hj => if e18 : j = 18 then by subst e18; exact Or.inl f4 else Or.inr ⟨fun z => by first | (simp at z; done) | (simp at z; omega), by rw [pd_fu_n e18]⟩)
      exact lp_Mod_addM_360 l G h hMO hL hC hM hW hw2 hbda hism hmk hsv X hmn (100 + 1) 0 jc mm fo5 (fv 17) h2 (hk2.tr (pd_kx.mono (us := [20, 43, 44, 45, 46, 47, 48, 49]) (pd_kq.kx (k3) ha18) (by simp))) ((pd_MO.ext (fv2 := pd_fu (pd_fu (pd_fu (pd_fu (pd_fu (pd_fu (pd_fu fv 13 (upd (fv 13) k (nI jc))) 14 (upd (fv 14) k (nI mm))) 15 fo5) 16 (upd (fv 16) k (nI ((eA 1) - (gm_name cs (sA 1) (eA 1) + 1))))) 17 (fv 17)) 18 (upd (fv 18) k (nI ((eA 2) - (sA 2))))) 19 (upd (fv 19) k (nI 1))) (iv2 := pd_fu (pd_fu iv 38 (nI (gm_name cs (sA 1) (eA 1)))) 40 (nI (gm_name cs (sA 1) (eA 1) + 1))) mo16 (fun j9 hj9 => by by_cases e913 : j9 = 13; subst e913; rfl; by_cases e914 : j9 = 14; subst e914; rfl; by_cases e915 : j9 = 15; subst e915; rfl; by_cases e916 : j9 = 16; subst e916; rfl; by_cases e917 : j9 = 17; subst e917; rfl; by_cases e918 : j9 = 18; subst e918; rfl; by_cases e919 : j9 = 19; subst e919; rfl; simp only [pd_fu, if_neg e913, if_neg e914, if_neg e915, if_neg e916, if_neg e917, if_neg e918, if_neg e919]) rfl)) (hn34) (hmem) (hc2) (hmk9) (hfq) (hgq) (by omega) (hnf) (by omega) (by omega) (fun t ht => hf5 t (by omega)) (hk5) (fun t ht => absurd ht (Nat.not_lt_zero t)) (fun _ _ => rfl) (by omega) _ _ w ls (lv_sub hl [0, 1, 2, 3, 4, 5, 6, 7] rfl)
    · -- not taken: 306
      refine lv_aload_n hx hb d_p15m31_306 rfl (lv_at hl 5 rfl) ?_
      refine pd_get X w hy2 rfl 15 (by decide) mT_1154 rfl rfl d_p15m31_307 ?_
      refine lv_bipush (v := nI 12) hx hb d_p15m31_310 (by decide) ?_
      refine lv_iload hx hb d_p15m31_312 (lv_at hl 1 rfl) ?_
      refine pd_imul hx hb d_p15m31_314 ?_
      refine lv_iload hx hb d_p15m31_315 (lv_at hl 0 rfl) ?_
      refine pd_iadd hx hb d_p15m31_317 ?_
      refine lv_aload_n hx hb d_p15m31_318 rfl (lv_at hl 5 rfl) ?_
      refine pd_get X w hy2 rfl 0 (by decide) mT_1139 rfl rfl d_p15m31_319 ?_
      refine lv_aload_n hx hb d_p15m31_322 rfl (lv_at hl 5 rfl) ?_
      refine pd_get X w hy2 rfl 40 (by decide) mT_1179 rfl rfl d_p15m31_323 ?_
      refine lv_iload hx hb d_p15m31_326 (lv_at hl 0 rfl) ?_
      refine pd_iadd hx hb d_p15m31_328 ?_
      refine pd_iald X w ha0 (by omega) (by omega) d_p15m31_329 ?_
      refine pd_top (v' := .int (nI (cs.getD ((gm_name cs (sA 1) (eA 1) + 1) + ii) 0))) (congrArg Value.int (hln _ (by omega))) ?_
      have := tx_lt hlc ((gm_name cs (sA 1) (eA 1) + 1) + ii)
      refine pd_iast X w ha15 (hMO.2.2 15 (by decide)).2 (by omega) (by omega) d_p15m31_330 (fun H locs w => ?_)
      have w : pd_w G s H locs (pd_up hh (ad 15) (45, .inl (.int, 288, .inl (upd fo5 ((12 * k) + ii) (nI (cs.getD ((gm_name cs (sA 1) (eA 1) + 1) + ii) 0)))))) := w
      obtain ⟨h17, u20⟩ : ∃ z, z = pd_up hh (ad 15) (45, .inl (.int, 288, .inl (upd fo5 ((12 * k) + ii) (nI (cs.getD ((gm_name cs (sA 1) (eA 1) + 1) + ii) 0))))) := ⟨_, rfl⟩
      rw [← u20] at w
      have k18 : pd_kq (ad 15) hh h17 := by rw [u20]; exact pd_up_kq
      have f19 : h17 (ad 15) = some (45, .inl (.int, 288, .inl (upd fo5 ((12 * k) + ii) (nI (cs.getD ((gm_name cs (sA 1) (eA 1) + 1) + ii) 0))))) := by rw [u20]; exact pd_up_s _ _ _
      have f21 := k18 _ _ (pd_ne hy2 ha15 (by simp)) hy2
      have f22 := k18 _ _ (pd_ne ha0 ha15 (by simp)) ha0
      have f23 := k18 _ _ (pd_ne ha1 ha15 (by simp)) ha1
      have f24 := k18 _ _ (pd_ne ha2 ha15 (by simp)) ha2
      have f25 := k18 _ _ (pd_ne ha13 ha15 (by simp)) ha13
      have f26 := k18 _ _ (pd_ne ha14 ha15 (by simp)) ha14
      have f27 := k18 _ _ (pd_ne ha16 ha15 (by simp)) ha16
      have f28 := k18 _ _ (pd_ne ha17 ha15 (by simp)) ha17
      have f29 := k18 _ _ (pd_ne ha18 ha15 (by simp)) ha18
      have f30 := k18 _ _ (pd_ne ha19 ha15 (by simp)) ha19
      refine pd_iinc (k := 0) (d := 1) (lv' := [(8, .int (nI (ii + 1))), (7, .int (nI k)), (5, .int (nI (eA 1))), (4, .int (nI jc)), (3, .int (nI mm)), (0, .ref y), (1, .int (nI nw)), (2, .int (nI 1))]) hx hb d_p15m31_331 (by decide) hl rfl (by decide) rfl (fun ls hl => ?_)
      refine lv_goto (tgt := 294) hx hb d_p15m31_334 (by decide) ?_
      have mo31 : pd_MO G h17 y ad (pd_fu (pd_fu (pd_fu (pd_fu (pd_fu (pd_fu fv 13 (upd (fv 13) k (nI jc))) 14 (upd (fv 14) k (nI mm))) 15 fo5) 16 (upd (fv 16) k (nI ((eA 1) - (gm_name cs (sA 1) (eA 1) + 1))))) 19 (upd (fv 19) k (nI 1))) 15 (upd fo5 ((12 * k) + ii) (nI (cs.getD ((gm_name cs (sA 1) (eA 1) + 1) + ii) 0)))) (pd_fu (pd_fu iv 38 (nI (gm_name cs (sA 1) (eA 1)))) 40 (nI (gm_name cs (sA 1) (eA 1) + 1))) tl := pd_MO.of (ts := [45]) hMO2 (pd_kq.kx (k18) ha15) f21 (fun j hj => if e15 : j = 15 then by subst e15; exact Or.inl f19 else Or.inr ⟨fun z => by first | (simp at z; done) | (simp at z; omega), by rw [pd_fu_n e15]⟩)
      exact ih (ii + 1) jc mm (upd fo5 ((12 * k) + ii) (nI (cs.getD ((gm_name cs (sA 1) (eA 1) + 1) + ii) 0))) h17 (hk2.tr (pd_kx.mono (us := [20, 43, 44, 45, 46, 47, 48, 49]) (pd_kq.kx (k18) ha15) (by simp))) ((pd_MO.ext (fv2 := pd_fu (pd_fu (pd_fu (pd_fu (pd_fu fv 13 (upd (fv 13) k (nI jc))) 14 (upd (fv 14) k (nI mm))) 15 (upd fo5 ((12 * k) + ii) (nI (cs.getD ((gm_name cs (sA 1) (eA 1) + 1) + ii) 0)))) 16 (upd (fv 16) k (nI ((eA 1) - (gm_name cs (sA 1) (eA 1) + 1))))) 19 (upd (fv 19) k (nI 1))) (iv2 := pd_fu (pd_fu iv 38 (nI (gm_name cs (sA 1) (eA 1)))) 40 (nI (gm_name cs (sA 1) (eA 1) + 1))) mo31 (fun j9 hj9 => by by_cases e913 : j9 = 13; subst e913; rfl; by_cases e914 : j9 = 14; subst e914; rfl; by_cases e915 : j9 = 15; subst e915; rfl; by_cases e916 : j9 = 16; subst e916; rfl; by_cases e919 : j9 = 19; subst e919; rfl; simp only [pd_fu, if_neg e913, if_neg e914, if_neg e915, if_neg e916, if_neg e919]) rfl)) (hn34) (hmem) (hc2) (hmk9) (hfq) (hgq) (by omega) (hnf) (by omega) (by omega) (fun t ht => by by_cases e9 : t = ii; subst e9; rw [pk_us]; rw [pk_un (by omega)]; exact hf5 t (by omega)) (fun x hx => by rw [pk_un (by omega)]; exact hk5 x hx) (by omega) _ _ w ls (lv_sub hl [0, 1, 2, 3, 4, 5, 6, 7] rfl)
set_option maxHeartbeats 4000000 in
set_option maxRecDepth 100000 in
theorem lp_Mod_addM_172 (l : Launch) (G : pd_G) (h : pd_H) {y : Nat} {ad : Nat → Nat} {fv : Nat → Nat → Int32} {iv : Nat → Int32} {tl : Int64} {cs : List Nat} {n : Nat} {R : Nat → pd_cr} {k : Nat} {M : Nat → pd_mr} {nw : Nat} {sA eA : Nat → Nat} (hMO : pd_MO G h y ad fv iv tl) (hL : gm_L fv iv cs) (hC : gm_C fv iv n R) (hM : gm_M fv iv n k M) (hW : gm_W fv cs nw sA eA) (hw2 : tx_sub cs (sA 2) (eA 2) = gr_w cs 2) (hbda : gm_mem cs (sA 1) (eA 1) = true → tx_sub cs (sA 1) (gm_name cs (sA 1) (eA 1)) = gr_bd (gr_w cs 1) ∧ tx_sub cs (gm_name cs (sA 1) (eA 1) + 1) (eA 1) = gr_ad (gr_w cs 1)) (hism : gm_shape cs (sA 2) (eA 2) = true → gr_ism (gr_w cs 2) = true) (hmk : ∀ t, (if nw = 4 then gm_mk cs (eA 3) (eA 3 - sA 3) (sA 3) 0 else some 0) = some t → t = gr_mk (gr_w cs 3) ∧ t < 4) (hsv : gm_shape cs (sA 2) (eA 2) = true → eA 2 - sA 2 = 3 → cs.getD (eA 2 - 1) 0 = 86 → gr_w cs 2 = [40, 41, 86]) {p : Program} {e : Env} {s : State} {m : MethodId} {below : List Frame} {meth : Method} {c : Code} (X : pd_B p s m [.ref y, .int (nI nw), .int (nI 1)].toArray meth c G y_Mod_addM.cls prog_15_method_31_code 9 (some .int)) (hmn : meth.name = y_Mod_addM.name) :
    ∀ (kk9 : Nat) (ii : Nat) (la : Bool) (jc : Nat) (mm : Nat) (hh : pd_H), (pd_kx [20, 43, 44, 45, 46, 47, 48, 49] h hh) → (pd_MO G hh y ad (fv) (pd_fu (pd_fu iv 38 (nI (gm_name cs (sA 1) (eA 1)))) 40 (nI (gm_name cs (sA 1) (eA 1) + 1))) tl) → (3 ≤ nw ∧ nw ≤ 4) → (gm_mem cs (sA 1) (eA 1) = true) → (gm_shape cs (sA 2) (eA 2) = true) → ((if nw = 4 then gm_mk cs (eA 3) (eA 3 - sA 3) (sA 3) 0 else some 0) = some mm) → (some jc = gr_find R n (tx_sub cs (sA 1) (gm_name cs (sA 1) (eA 1)))) → (none = gr_decl M k jc (tx_sub cs (gm_name cs (sA 1) (eA 1) + 1) (eA 1)) (tx_sub cs (sA 2) (eA 2))) → (jc < n) → (ii ≤ 8) → (la = true → eA 1 - (gm_name cs (sA 1) (eA 1) + 1) = 8 ∧ tx_sub cs (sA 2) (eA 2) = [40, 41, 86] ∧ ∀ t, t < ii → cs.getD (gm_name cs (sA 1) (eA 1) + 1 + t) 0 = gm_oc 7312272859201431910 t) → (la = false → ¬ (tx_sub cs (gm_name cs (sA 1) (eA 1) + 1) (eA 1) = [102, 105, 110, 97, 108, 105, 122, 101] ∧ tx_sub cs (sA 2) (eA 2) = [40, 41, 86])) → 8 - ii < kk9 → ∀ (H : Heap) (locs : List Loc), pd_w G s H locs hh → ∀ ls : Array Slot, lv_has ls 9 [(7, .int (nI ii)), (6, .int (pd_b la)), (5, .int (nI (eA 1))), (4, .int (nI jc)), (3, .int (nI mm)), (0, .ref y), (1, .int (nI nw)), (2, .int (nI 1))] → W p l e rm_Mod_addM s m [.ref y, .int (nI nw), .int (nI 1)].toArray below meth c H locs 0 0 (MQ below (pd_Q G Value.int (fun r h1 => (¬ ((3 ≤ nw ∧ nw ≤ 4) ∧ gm_mem cs (sA 1) (eA 1) = true ∧ (gm_shape cs (sA 2) (eA 2) = true) ∧ ¬ (if nw = 4 then gm_mk cs (eA 3) (eA 3 - sA 3) (sA 3) 0 else some 0) = none) ∧ r = -1 ∧ pd_kx [20, 43, 44, 45, 46, 47, 48, 49] h h1 ∧ ∃ fv2 iv2, pd_MO G h1 y ad fv2 iv2 tl ∧ gm_fr [13, 14, 15, 16, 17, 18, 19] [20, 38, 40] fv iv fv2 iv2 ∧ gm_M fv2 iv2 n k M) ∨ (((3 ≤ nw ∧ nw ≤ 4) ∧ gm_mem cs (sA 1) (eA 1) = true ∧ (gm_shape cs (sA 2) (eA 2) = true) ∧ ¬ (if nw = 4 then gm_mk cs (eA 3) (eA 3 - sA 3) (sA 3) 0 else some 0) = none) ∧ r = (gr_dm n R k M cs).1 ∧ pd_kx [20, 43, 44, 45, 46, 47, 48, 49] h h1 ∧ ∃ fv2 iv2, pd_MO G h1 y ad fv2 iv2 tl ∧ gm_fr [13, 14, 15, 16, 17, 18, 19] [20, 38, 40] fv iv fv2 iv2 ∧ gm_M fv2 iv2 n (gr_dm n R k M cs).2.1 (gr_dm n R k M cs).2.2))) [.ref y, .int (nI nw), .int (nI 1)].toArray s rm_Mod_addM.cells rm_Mod_addM.slots (fun q => G.2.1 ≤ q)) (F0 m 172 ls []) := by
  have hx := X.1
  have hb := X.2.1
  have hz_y := hMO.2.1
  have hy0 : h y = some (20, .inr (10, [.ref (ad 0), .ref (ad 1), .ref (ad 2), .int (iv 3), .int (iv 4), .int (iv 5), .ref (ad 6), .ref (ad 7), .ref (ad 8), .ref (ad 9), .ref (ad 10), .ref (ad 11), .int (iv 12), .ref (ad 13), .ref (ad 14), .ref (ad 15), .ref (ad 16), .ref (ad 17), .ref (ad 18), .ref (ad 19), .int (iv 20), .ref (ad 21), .ref (ad 22), .ref (ad 23), .ref (ad 24), .ref (ad 25), .ref (ad 26), .ref (ad 27), .ref (ad 28), .int (iv 29), .ref (ad 30), .ref (ad 31), .int (iv 32), .int (iv 33), .int (iv 34), .int (iv 35), .long tl, .int (iv 37), .int (iv 38), .int (iv 39), .int (iv 40), .ref (ad 41), .ref (ad 42), .int (iv 43)])) := hMO.1
  have ha0 : h (ad 0) = some (30, .inl (.int, 60, .inl (fv 0))) := (hMO.2.2 0 (by decide)).1
  have ha1 : h (ad 1) = some (31, .inl (.int, 40, .inl (fv 1))) := (hMO.2.2 1 (by decide)).1
  have ha2 : h (ad 2) = some (32, .inl (.int, 40, .inl (fv 2))) := (hMO.2.2 2 (by decide)).1
  have ha13 : h (ad 13) = some (43, .inl (.int, 24, .inl (fv 13))) := (hMO.2.2 13 (by decide)).1
  have ha14 : h (ad 14) = some (44, .inl (.int, 24, .inl (fv 14))) := (hMO.2.2 14 (by decide)).1
  have ha15 : h (ad 15) = some (45, .inl (.int, 288, .inl (fv 15))) := (hMO.2.2 15 (by decide)).1
  have ha16 : h (ad 16) = some (46, .inl (.int, 24, .inl (fv 16))) := (hMO.2.2 16 (by decide)).1
  have ha17 : h (ad 17) = some (47, .inl (.int, 1440, .inl (fv 17))) := (hMO.2.2 17 (by decide)).1
  have ha18 : h (ad 18) = some (48, .inl (.int, 24, .inl (fv 18))) := (hMO.2.2 18 (by decide)).1
  have ha19 : h (ad 19) = some (49, .inl (.boolean, 24, .inl (fv 19))) := (hMO.2.2 19 (by decide)).1
  obtain ⟨hiv3, hln, hl60, hlc⟩ := id hL
  obtain ⟨hiv12, hn2, hn14, hCc⟩ := id hC
  obtain ⟨hiv20, hk24, hMm⟩ := id hM
  have hw31 := hW.1
  intro kk9
  induction kk9 with
  | zero => intros; omega
  | succ kk9 ih =>
    intro ii la jc mm hh hk2 hMO2 hn34 hmem hc2 hmk9 hfq hgq hjn hi hsm hns hmu H locs w ls hl
    have hz_y := hMO2.2.1
    have hy2 : hh y = some (20, .inr (10, [.ref (ad 0), .ref (ad 1), .ref (ad 2), .int (iv 3), .int (iv 4), .int (iv 5), .ref (ad 6), .ref (ad 7), .ref (ad 8), .ref (ad 9), .ref (ad 10), .ref (ad 11), .int (iv 12), .ref (ad 13), .ref (ad 14), .ref (ad 15), .ref (ad 16), .ref (ad 17), .ref (ad 18), .ref (ad 19), .int (iv 20), .ref (ad 21), .ref (ad 22), .ref (ad 23), .ref (ad 24), .ref (ad 25), .ref (ad 26), .ref (ad 27), .ref (ad 28), .int (iv 29), .ref (ad 30), .ref (ad 31), .int (iv 32), .int (iv 33), .int (iv 34), .int (iv 35), .long tl, .int (iv 37), .int (nI (gm_name cs (sA 1) (eA 1))), .int (iv 39), .int (nI (gm_name cs (sA 1) (eA 1) + 1)), .ref (ad 41), .ref (ad 42), .int (iv 43)])) := hMO2.1
    have ha0 : hh (ad 0) = some (30, .inl (.int, 60, .inl (fv 0))) := (hMO2.2.2 0 (by decide)).1
    have ha1 : hh (ad 1) = some (31, .inl (.int, 40, .inl (fv 1))) := (hMO2.2.2 1 (by decide)).1
    have ha2 : hh (ad 2) = some (32, .inl (.int, 40, .inl (fv 2))) := (hMO2.2.2 2 (by decide)).1
    have ha13 : hh (ad 13) = some (43, .inl (.int, 24, .inl (fv 13))) := (hMO2.2.2 13 (by decide)).1
    have ha14 : hh (ad 14) = some (44, .inl (.int, 24, .inl (fv 14))) := (hMO2.2.2 14 (by decide)).1
    have ha15 : hh (ad 15) = some (45, .inl (.int, 288, .inl (fv 15))) := (hMO2.2.2 15 (by decide)).1
    have ha16 : hh (ad 16) = some (46, .inl (.int, 24, .inl (fv 16))) := (hMO2.2.2 16 (by decide)).1
    have ha17 : hh (ad 17) = some (47, .inl (.int, 1440, .inl (fv 17))) := (hMO2.2.2 17 (by decide)).1
    have ha18 : hh (ad 18) = some (48, .inl (.int, 24, .inl (fv 18))) := (hMO2.2.2 18 (by decide)).1
    have ha19 : hh (ad 19) = some (49, .inl (.boolean, 24, .inl (fv 19))) := (hMO2.2.2 19 (by decide)).1
    have hmb := of_decide_eq_true hmem
    have hwl2 := (hW.2 2 (by omega)).2.2
    have hwl1 := (hW.2 1 (by omega)).2.2
    have hmm := (hmk mm hmk9)
    refine lv_iload hx hb d_p15m31_172 (lv_at hl 0 rfl) ?_
    refine lv_bipush (v := nI 8) hx hb d_p15m31_174 (by decide) ?_
    refine pd_jge (tgt := 226) hx hb d_p15m31_176 (by decide) (by omega) (by omega) (fun q1 => ?_) (fun q1 => ?_)
    · -- taken: 226
      refine lv_iload hx hb d_p15m31_226 (lv_at hl 1 rfl) ?_
      refine pd_beq (tgt := 234) hx hb d_p15m31_228 (by decide) (fun q2 => ?_) (fun q2 => ?_)
      · -- taken: 234
        refine lv_aload_n hx hb d_p15m31_234 rfl (lv_at hl 5 rfl) ?_
        refine pd_get X w hy2 rfl 20 (by decide) mT_1159 rfl rfl d_p15m31_235 ?_
        refine pd_top (v' := .int (nI k)) (congrArg Value.int hiv20) ?_
        refine lv_bipush (v := nI 24) hx hb d_p15m31_238 (by decide) ?_
        refine pd_jne (tgt := 246) hx hb d_p15m31_240 (by decide) (by omega) (by omega) (fun q3 => ?_) (fun q3 => ?_)
        · -- taken: 246
          refine lv_aload_n hx hb d_p15m31_246 rfl (lv_at hl 5 rfl) ?_
          refine pd_get X w hy2 rfl 20 (by decide) mT_1159 rfl rfl d_p15m31_247 ?_
          refine pd_top (v' := .int (nI k)) (congrArg Value.int hiv20) ?_
          refine lv_istore (lv' := [(7, .int (nI k)), (6, .int (pd_b la)), (5, .int (nI (eA 1))), (4, .int (nI jc)), (3, .int (nI mm)), (0, .ref y), (1, .int (nI nw)), (2, .int (nI 1))]) hx hb d_p15m31_250 hl (by decide) rfl (fun ls hl => ?_)
          refine lv_aload_n hx hb d_p15m31_252 rfl (lv_at hl 5 rfl) ?_
          refine pd_get X w hy2 rfl 13 (by decide) mT_1152 rfl rfl d_p15m31_253 ?_
          refine lv_iload hx hb d_p15m31_256 (lv_at hl 0 rfl) ?_
          refine lv_iload hx hb d_p15m31_258 (lv_at hl 3 rfl) ?_
          refine pd_iast X w ha13 (hMO.2.2 13 (by decide)).2 (by omega) (by omega) d_p15m31_260 (fun H locs w => ?_)
          have w : pd_w G s H locs (pd_up hh (ad 13) (43, .inl (.int, 24, .inl (upd (fv 13) k (nI jc))))) := w
          obtain ⟨h4, u7⟩ : ∃ z, z = pd_up hh (ad 13) (43, .inl (.int, 24, .inl (upd (fv 13) k (nI jc)))) := ⟨_, rfl⟩
          rw [← u7] at w
          have k5 : pd_kq (ad 13) hh h4 := by rw [u7]; exact pd_up_kq
          have f6 : h4 (ad 13) = some (43, .inl (.int, 24, .inl (upd (fv 13) k (nI jc)))) := by rw [u7]; exact pd_up_s _ _ _
          have f8 := k5 _ _ (pd_ne hy2 ha13 (by simp)) hy2
          have f9 := k5 _ _ (pd_ne ha0 ha13 (by simp)) ha0
          have f10 := k5 _ _ (pd_ne ha1 ha13 (by simp)) ha1
          have f11 := k5 _ _ (pd_ne ha2 ha13 (by simp)) ha2
          have f12 := k5 _ _ (pd_ne ha14 ha13 (by simp)) ha14
          have f13 := k5 _ _ (pd_ne ha15 ha13 (by simp)) ha15
          have f14 := k5 _ _ (pd_ne ha16 ha13 (by simp)) ha16
          have f15 := k5 _ _ (pd_ne ha17 ha13 (by simp)) ha17
          have f16 := k5 _ _ (pd_ne ha18 ha13 (by simp)) ha18
          have f17 := k5 _ _ (pd_ne ha19 ha13 (by simp)) ha19
          refine lv_aload_n hx hb d_p15m31_261 rfl (lv_at hl 5 rfl) ?_
          refine pd_get X w f8 rfl 14 (by decide) mT_1153 rfl rfl d_p15m31_262 ?_
          refine lv_iload hx hb d_p15m31_265 (lv_at hl 0 rfl) ?_
          refine lv_iload_n hx hb d_p15m31_267 rfl (lv_at hl 4 rfl) ?_
          refine pd_iast X w f12 (hMO.2.2 14 (by decide)).2 (by omega) (by omega) d_p15m31_268 (fun H locs w => ?_)
          have w : pd_w G s H locs (pd_up h4 (ad 14) (44, .inl (.int, 24, .inl (upd (fv 14) k (nI mm))))) := w
          obtain ⟨h18, u21⟩ : ∃ z, z = pd_up h4 (ad 14) (44, .inl (.int, 24, .inl (upd (fv 14) k (nI mm)))) := ⟨_, rfl⟩
          rw [← u21] at w
          have k19 : pd_kq (ad 14) h4 h18 := by rw [u21]; exact pd_up_kq
          have f20 : h18 (ad 14) = some (44, .inl (.int, 24, .inl (upd (fv 14) k (nI mm)))) := by rw [u21]; exact pd_up_s _ _ _
          have f22 := k19 _ _ (pd_ne f8 f12 (by simp)) f8
          have f23 := k19 _ _ (pd_ne f9 f12 (by simp)) f9
          have f24 := k19 _ _ (pd_ne f10 f12 (by simp)) f10
          have f25 := k19 _ _ (pd_ne f11 f12 (by simp)) f11
          have f26 := k19 _ _ (pd_ne f13 f12 (by simp)) f13
          have f27 := k19 _ _ (pd_ne f14 f12 (by simp)) f14
          have f28 := k19 _ _ (pd_ne f15 f12 (by simp)) f15
          have f29 := k19 _ _ (pd_ne f16 f12 (by simp)) f16
          have f30 := k19 _ _ (pd_ne f17 f12 (by simp)) f17
          have f31 := k19 _ _ (pd_ne f6 f12 (by simp)) f6
          refine lv_aload_n hx hb d_p15m31_269 rfl (lv_at hl 5 rfl) ?_
          refine pd_get X w f22 rfl 19 (by decide) mT_1158 rfl rfl d_p15m31_270 ?_
          refine lv_iload hx hb d_p15m31_273 (lv_at hl 0 rfl) ?_
          refine lv_iload_n hx hb d_p15m31_275 rfl (lv_at hl 7 rfl) ?_
          refine pd_zast (z := (nI 1)) X w f30 (hMO.2.2 19 (by decide)).2 (by omega) (by omega) (by decide) d_p15m31_276 (fun H locs w => ?_)
          have w : pd_w G s H locs (pd_up h18 (ad 19) (49, .inl (.boolean, 24, .inl (upd (fv 19) k (nI 1))))) := w
          obtain ⟨h32, u35⟩ : ∃ z, z = pd_up h18 (ad 19) (49, .inl (.boolean, 24, .inl (upd (fv 19) k (nI 1)))) := ⟨_, rfl⟩
          rw [← u35] at w
          have k33 : pd_kq (ad 19) h18 h32 := by rw [u35]; exact pd_up_kq
          have f34 : h32 (ad 19) = some (49, .inl (.boolean, 24, .inl (upd (fv 19) k (nI 1)))) := by rw [u35]; exact pd_up_s _ _ _
          have f36 := k33 _ _ (pd_ne f22 f30 (by simp)) f22
          have f37 := k33 _ _ (pd_ne f23 f30 (by simp)) f23
          have f38 := k33 _ _ (pd_ne f24 f30 (by simp)) f24
          have f39 := k33 _ _ (pd_ne f25 f30 (by simp)) f25
          have f40 := k33 _ _ (pd_ne f26 f30 (by simp)) f26
          have f41 := k33 _ _ (pd_ne f27 f30 (by simp)) f27
          have f42 := k33 _ _ (pd_ne f28 f30 (by simp)) f28
          have f43 := k33 _ _ (pd_ne f29 f30 (by simp)) f29
          have f44 := k33 _ _ (pd_ne f31 f30 (by simp)) f31
          have f45 := k33 _ _ (pd_ne f20 f30 (by simp)) f20
          refine lv_aload_n hx hb d_p15m31_277 rfl (lv_at hl 5 rfl) ?_
          refine pd_get X w f36 rfl 16 (by decide) mT_1155 rfl rfl d_p15m31_278 ?_
          refine lv_iload hx hb d_p15m31_281 (lv_at hl 0 rfl) ?_
          refine lv_iload hx hb d_p15m31_283 (lv_at hl 2 rfl) ?_
          refine lv_aload_n hx hb d_p15m31_285 rfl (lv_at hl 5 rfl) ?_
          refine pd_get X w f36 rfl 40 (by decide) mT_1179 rfl rfl d_p15m31_286 ?_
          refine pd_isub hx hb d_p15m31_289 (by omega) ?_
          refine pd_iast X w f41 (hMO.2.2 16 (by decide)).2 (by omega) (by omega) d_p15m31_290 (fun H locs w => ?_)
          have w : pd_w G s H locs (pd_up h32 (ad 16) (46, .inl (.int, 24, .inl (upd (fv 16) k (nI ((eA 1) - (gm_name cs (sA 1) (eA 1) + 1))))))) := w
          obtain ⟨h46, u49⟩ : ∃ z, z = pd_up h32 (ad 16) (46, .inl (.int, 24, .inl (upd (fv 16) k (nI ((eA 1) - (gm_name cs (sA 1) (eA 1) + 1)))))) := ⟨_, rfl⟩
          rw [← u49] at w
          have k47 : pd_kq (ad 16) h32 h46 := by rw [u49]; exact pd_up_kq
          have f48 : h46 (ad 16) = some (46, .inl (.int, 24, .inl (upd (fv 16) k (nI ((eA 1) - (gm_name cs (sA 1) (eA 1) + 1)))))) := by rw [u49]; exact pd_up_s _ _ _
          have f50 := k47 _ _ (pd_ne f36 f41 (by simp)) f36
          have f51 := k47 _ _ (pd_ne f37 f41 (by simp)) f37
          have f52 := k47 _ _ (pd_ne f38 f41 (by simp)) f38
          have f53 := k47 _ _ (pd_ne f39 f41 (by simp)) f39
          have f54 := k47 _ _ (pd_ne f40 f41 (by simp)) f40
          have f55 := k47 _ _ (pd_ne f42 f41 (by simp)) f42
          have f56 := k47 _ _ (pd_ne f43 f41 (by simp)) f43
          have f57 := k47 _ _ (pd_ne f44 f41 (by simp)) f44
          have f58 := k47 _ _ (pd_ne f45 f41 (by simp)) f45
          have f59 := k47 _ _ (pd_ne f34 f41 (by simp)) f34
          refine lv_iconst (v := nI 0) hx hb d_p15m31_291 (by decide) ?_
          refine lv_istore (lv' := [(8, .int (nI 0)), (7, .int (nI k)), (6, .int (pd_b la)), (5, .int (nI (eA 1))), (4, .int (nI jc)), (3, .int (nI mm)), (0, .ref y), (1, .int (nI nw)), (2, .int (nI 1))]) hx hb d_p15m31_292 hl (by decide) rfl (fun ls hl => ?_)
          have mo60 : pd_MO G h46 y ad (pd_fu (pd_fu (pd_fu (pd_fu fv 13 (upd (fv 13) k (nI jc))) 14 (upd (fv 14) k (nI mm))) 16 (upd (fv 16) k (nI ((eA 1) - (gm_name cs (sA 1) (eA 1) + 1))))) 19 (upd (fv 19) k (nI 1))) (pd_fu (pd_fu iv 38 (nI (gm_name cs (sA 1) (eA 1)))) 40 (nI (gm_name cs (sA 1) (eA 1) + 1))) tl := pd_MO.of (ts := [43, 44, 49, 46]) hMO2 (pd_kx.tr (pd_kx.mono (us := [43, 44, 49, 46]) (pd_kx.tr (pd_kx.mono (us := [43, 44, 49]) (pd_kx.tr (pd_kx.mono (us := [43, 44]) (pd_kq.kx (k5) ha13) (by simp)) (pd_kx.mono (us := [43, 44]) (pd_kq.kx (k19) f12) (by simp))) (by simp)) (pd_kx.mono (us := [43, 44, 49]) (pd_kq.kx (k33) f30) (by simp))) (by simp)) (pd_kx.mono (us := [43, 44, 49, 46]) (pd_kq.kx (k47) f41) (by simp))) f50 (fun j hj => if e13 : j = 13 then by subst e13; exact Or.inl f57 else if e14 : j = 14 then by subst e14; exact Or.inl f58 else if e16 : j = 16 then by subst e16; exact Or.inl f48 else if e19 : j = 19 then by subst e19; exact Or.inl f59 else Or.inr ⟨fun z => by first | (simp at z; done) | (simp at z; omega), by rw [pd_fu_n e19, pd_fu_n e16, pd_fu_n e14, pd_fu_n e13]⟩)
          exact lp_Mod_addM_294 l G h hMO hL hC hM hW hw2 hbda hism hmk hsv X hmn (100 + 1) 0 jc mm (fv 15) h46 (hk2.tr (pd_kx.mono (us := [20, 43, 44, 45, 46, 47, 48, 49]) (pd_kx.tr (pd_kx.mono (us := [43, 44, 49, 46]) (pd_kx.tr (pd_kx.mono (us := [43, 44, 49]) (pd_kx.tr (pd_kx.mono (us := [43, 44]) (pd_kq.kx (k5) ha13) (by simp)) (pd_kx.mono (us := [43, 44]) (pd_kq.kx (k19) f12) (by simp))) (by simp)) (pd_kx.mono (us := [43, 44, 49]) (pd_kq.kx (k33) f30) (by simp))) (by simp)) (pd_kx.mono (us := [43, 44, 49, 46]) (pd_kq.kx (k47) f41) (by simp))) (by simp))) ((pd_MO.ext (fv2 := pd_fu (pd_fu (pd_fu (pd_fu (pd_fu fv 13 (upd (fv 13) k (nI jc))) 14 (upd (fv 14) k (nI mm))) 15 (fv 15)) 16 (upd (fv 16) k (nI ((eA 1) - (gm_name cs (sA 1) (eA 1) + 1))))) 19 (upd (fv 19) k (nI 1))) (iv2 := pd_fu (pd_fu iv 38 (nI (gm_name cs (sA 1) (eA 1)))) 40 (nI (gm_name cs (sA 1) (eA 1) + 1))) mo60 (fun j9 hj9 => by by_cases e913 : j9 = 13; subst e913; rfl; by_cases e914 : j9 = 14; subst e914; rfl; by_cases e915 : j9 = 15; subst e915; rfl; by_cases e916 : j9 = 16; subst e916; rfl; by_cases e919 : j9 = 19; subst e919; rfl; simp only [pd_fu, if_neg e913, if_neg e914, if_neg e915, if_neg e916, if_neg e919]) rfl)) (hn34) (hmem) (hc2) (hmk9) (hfq) (hgq) (by omega) (hns q2) (by omega) (by omega) (fun t ht => absurd ht (Nat.not_lt_zero t)) (fun _ _ => rfl) (by omega) _ _ w ls (lv_sub hl [0, 1, 3, 4, 5, 6, 7, 8] rfl)
        · -- not taken: 243
          refine lv_bipush (v := -5) hx hb d_p15m31_243 (by decide) ?_
          have hg : gr_dm n R k M cs = (-5, k, M) := by unfold gr_dm; simp only [← (hbda hmem).1, ← (hbda hmem).2, ← hw2, hfq.symm, hgq.symm]; rw [if_neg (hns q2), gr_madd_n (by omega)]
          exact pd_iret (v := (-5)) X w (Or.inr ⟨⟨hn34, hmem, hc2, by rw [hmk9]; simp⟩, by rw [hg], hk2, _, _, hMO2, ⟨fun _ _ => rfl, fun j hj => by simp at hj; simp [pd_fu, hj]⟩, (by rw [hg]; exact hM)⟩) (by decide) (by decide) d_p15m31_245
      · -- not taken: 231
        refine lv_bipush (v := -4) hx hb d_p15m31_231 (by decide) ?_
        have hg : gr_dm n R k M cs = (-4, k, M) := by unfold gr_dm; simp only [← (hbda hmem).1, ← (hbda hmem).2, ← hw2, hfq.symm, hgq.symm]; rw [if_pos ⟨gm_fin_y (by omega) (hsm q2).1 (fun t ht => (hsm q2).2.2 t (by omega)), (hsm q2).2.1⟩]
        exact pd_iret (v := (-4)) X w (Or.inr ⟨⟨hn34, hmem, hc2, by rw [hmk9]; simp⟩, by rw [hg], hk2, _, _, hMO2, ⟨fun _ _ => rfl, fun j hj => by simp at hj; simp [pd_fu, hj]⟩, (by rw [hg]; exact hM)⟩) (by decide) (by decide) d_p15m31_233
    · -- not taken: 179
      refine lv_iload hx hb d_p15m31_179 (lv_at hl 1 rfl) ?_
      refine pd_beq (tgt := 226) hx hb d_p15m31_181 (by decide) (fun q61 => ?_) (fun q61 => ?_)
      · -- taken: 226
        refine lv_iload hx hb d_p15m31_226 (lv_at hl 1 rfl) ?_
        refine pd_beq (tgt := 234) hx hb d_p15m31_228 (by decide) (fun q62 => ?_) (fun q62 => ?_)
        · -- taken: 234
          refine lv_aload_n hx hb d_p15m31_234 rfl (lv_at hl 5 rfl) ?_
          refine pd_get X w hy2 rfl 20 (by decide) mT_1159 rfl rfl d_p15m31_235 ?_
          refine pd_top (v' := .int (nI k)) (congrArg Value.int hiv20) ?_
          refine lv_bipush (v := nI 24) hx hb d_p15m31_238 (by decide) ?_
          refine pd_jne (tgt := 246) hx hb d_p15m31_240 (by decide) (by omega) (by omega) (fun q63 => ?_) (fun q63 => ?_)
          · -- taken: 246
            refine lv_aload_n hx hb d_p15m31_246 rfl (lv_at hl 5 rfl) ?_
            refine pd_get X w hy2 rfl 20 (by decide) mT_1159 rfl rfl d_p15m31_247 ?_
            refine pd_top (v' := .int (nI k)) (congrArg Value.int hiv20) ?_
            refine lv_istore (lv' := [(7, .int (nI k)), (6, .int (pd_b la)), (5, .int (nI (eA 1))), (4, .int (nI jc)), (3, .int (nI mm)), (0, .ref y), (1, .int (nI nw)), (2, .int (nI 1))]) hx hb d_p15m31_250 hl (by decide) rfl (fun ls hl => ?_)
            refine lv_aload_n hx hb d_p15m31_252 rfl (lv_at hl 5 rfl) ?_
            refine pd_get X w hy2 rfl 13 (by decide) mT_1152 rfl rfl d_p15m31_253 ?_
            refine lv_iload hx hb d_p15m31_256 (lv_at hl 0 rfl) ?_
            refine lv_iload hx hb d_p15m31_258 (lv_at hl 3 rfl) ?_
            refine pd_iast X w ha13 (hMO.2.2 13 (by decide)).2 (by omega) (by omega) d_p15m31_260 (fun H locs w => ?_)
            have w : pd_w G s H locs (pd_up hh (ad 13) (43, .inl (.int, 24, .inl (upd (fv 13) k (nI jc))))) := w
            obtain ⟨h64, u67⟩ : ∃ z, z = pd_up hh (ad 13) (43, .inl (.int, 24, .inl (upd (fv 13) k (nI jc)))) := ⟨_, rfl⟩
            rw [← u67] at w
            have k65 : pd_kq (ad 13) hh h64 := by rw [u67]; exact pd_up_kq
            have f66 : h64 (ad 13) = some (43, .inl (.int, 24, .inl (upd (fv 13) k (nI jc)))) := by rw [u67]; exact pd_up_s _ _ _
            have f68 := k65 _ _ (pd_ne hy2 ha13 (by simp)) hy2
            have f69 := k65 _ _ (pd_ne ha0 ha13 (by simp)) ha0
            have f70 := k65 _ _ (pd_ne ha1 ha13 (by simp)) ha1
            have f71 := k65 _ _ (pd_ne ha2 ha13 (by simp)) ha2
            have f72 := k65 _ _ (pd_ne ha14 ha13 (by simp)) ha14
            have f73 := k65 _ _ (pd_ne ha15 ha13 (by simp)) ha15
            have f74 := k65 _ _ (pd_ne ha16 ha13 (by simp)) ha16
            have f75 := k65 _ _ (pd_ne ha17 ha13 (by simp)) ha17
            have f76 := k65 _ _ (pd_ne ha18 ha13 (by simp)) ha18
            have f77 := k65 _ _ (pd_ne ha19 ha13 (by simp)) ha19
            refine lv_aload_n hx hb d_p15m31_261 rfl (lv_at hl 5 rfl) ?_
            refine pd_get X w f68 rfl 14 (by decide) mT_1153 rfl rfl d_p15m31_262 ?_
            refine lv_iload hx hb d_p15m31_265 (lv_at hl 0 rfl) ?_
            refine lv_iload_n hx hb d_p15m31_267 rfl (lv_at hl 4 rfl) ?_
            refine pd_iast X w f72 (hMO.2.2 14 (by decide)).2 (by omega) (by omega) d_p15m31_268 (fun H locs w => ?_)
            have w : pd_w G s H locs (pd_up h64 (ad 14) (44, .inl (.int, 24, .inl (upd (fv 14) k (nI mm))))) := w
            obtain ⟨h78, u81⟩ : ∃ z, z = pd_up h64 (ad 14) (44, .inl (.int, 24, .inl (upd (fv 14) k (nI mm)))) := ⟨_, rfl⟩
            rw [← u81] at w
            have k79 : pd_kq (ad 14) h64 h78 := by rw [u81]; exact pd_up_kq
            have f80 : h78 (ad 14) = some (44, .inl (.int, 24, .inl (upd (fv 14) k (nI mm)))) := by rw [u81]; exact pd_up_s _ _ _
            have f82 := k79 _ _ (pd_ne f68 f72 (by simp)) f68
            have f83 := k79 _ _ (pd_ne f69 f72 (by simp)) f69
            have f84 := k79 _ _ (pd_ne f70 f72 (by simp)) f70
            have f85 := k79 _ _ (pd_ne f71 f72 (by simp)) f71
            have f86 := k79 _ _ (pd_ne f73 f72 (by simp)) f73
            have f87 := k79 _ _ (pd_ne f74 f72 (by simp)) f74
            have f88 := k79 _ _ (pd_ne f75 f72 (by simp)) f75
            have f89 := k79 _ _ (pd_ne f76 f72 (by simp)) f76
            have f90 := k79 _ _ (pd_ne f77 f72 (by simp)) f77
            have f91 := k79 _ _ (pd_ne f66 f72 (by simp)) f66
            refine lv_aload_n hx hb d_p15m31_269 rfl (lv_at hl 5 rfl) ?_
            refine pd_get X w f82 rfl 19 (by decide) mT_1158 rfl rfl d_p15m31_270 ?_
            refine lv_iload hx hb d_p15m31_273 (lv_at hl 0 rfl) ?_
            refine lv_iload_n hx hb d_p15m31_275 rfl (lv_at hl 7 rfl) ?_
            refine pd_zast (z := (nI 1)) X w f90 (hMO.2.2 19 (by decide)).2 (by omega) (by omega) (by decide) d_p15m31_276 (fun H locs w => ?_)
            have w : pd_w G s H locs (pd_up h78 (ad 19) (49, .inl (.boolean, 24, .inl (upd (fv 19) k (nI 1))))) := w
            obtain ⟨h92, u95⟩ : ∃ z, z = pd_up h78 (ad 19) (49, .inl (.boolean, 24, .inl (upd (fv 19) k (nI 1)))) := ⟨_, rfl⟩
            rw [← u95] at w
            have k93 : pd_kq (ad 19) h78 h92 := by rw [u95]; exact pd_up_kq
            have f94 : h92 (ad 19) = some (49, .inl (.boolean, 24, .inl (upd (fv 19) k (nI 1)))) := by rw [u95]; exact pd_up_s _ _ _
            have f96 := k93 _ _ (pd_ne f82 f90 (by simp)) f82
            have f97 := k93 _ _ (pd_ne f83 f90 (by simp)) f83
            have f98 := k93 _ _ (pd_ne f84 f90 (by simp)) f84
            have f99 := k93 _ _ (pd_ne f85 f90 (by simp)) f85
            have f100 := k93 _ _ (pd_ne f86 f90 (by simp)) f86
            have f101 := k93 _ _ (pd_ne f87 f90 (by simp)) f87
            have f102 := k93 _ _ (pd_ne f88 f90 (by simp)) f88
            have f103 := k93 _ _ (pd_ne f89 f90 (by simp)) f89
            have f104 := k93 _ _ (pd_ne f91 f90 (by simp)) f91
            have f105 := k93 _ _ (pd_ne f80 f90 (by simp)) f80
            refine lv_aload_n hx hb d_p15m31_277 rfl (lv_at hl 5 rfl) ?_
            refine pd_get X w f96 rfl 16 (by decide) mT_1155 rfl rfl d_p15m31_278 ?_
            refine lv_iload hx hb d_p15m31_281 (lv_at hl 0 rfl) ?_
            refine lv_iload hx hb d_p15m31_283 (lv_at hl 2 rfl) ?_
            refine lv_aload_n hx hb d_p15m31_285 rfl (lv_at hl 5 rfl) ?_
            refine pd_get X w f96 rfl 40 (by decide) mT_1179 rfl rfl d_p15m31_286 ?_
            refine pd_isub hx hb d_p15m31_289 (by omega) ?_
            refine pd_iast X w f101 (hMO.2.2 16 (by decide)).2 (by omega) (by omega) d_p15m31_290 (fun H locs w => ?_)
            have w : pd_w G s H locs (pd_up h92 (ad 16) (46, .inl (.int, 24, .inl (upd (fv 16) k (nI ((eA 1) - (gm_name cs (sA 1) (eA 1) + 1))))))) := w
            obtain ⟨h106, u109⟩ : ∃ z, z = pd_up h92 (ad 16) (46, .inl (.int, 24, .inl (upd (fv 16) k (nI ((eA 1) - (gm_name cs (sA 1) (eA 1) + 1)))))) := ⟨_, rfl⟩
            rw [← u109] at w
            have k107 : pd_kq (ad 16) h92 h106 := by rw [u109]; exact pd_up_kq
            have f108 : h106 (ad 16) = some (46, .inl (.int, 24, .inl (upd (fv 16) k (nI ((eA 1) - (gm_name cs (sA 1) (eA 1) + 1)))))) := by rw [u109]; exact pd_up_s _ _ _
            have f110 := k107 _ _ (pd_ne f96 f101 (by simp)) f96
            have f111 := k107 _ _ (pd_ne f97 f101 (by simp)) f97
            have f112 := k107 _ _ (pd_ne f98 f101 (by simp)) f98
            have f113 := k107 _ _ (pd_ne f99 f101 (by simp)) f99
            have f114 := k107 _ _ (pd_ne f100 f101 (by simp)) f100
            have f115 := k107 _ _ (pd_ne f102 f101 (by simp)) f102
            have f116 := k107 _ _ (pd_ne f103 f101 (by simp)) f103
            have f117 := k107 _ _ (pd_ne f104 f101 (by simp)) f104
            have f118 := k107 _ _ (pd_ne f105 f101 (by simp)) f105
            have f119 := k107 _ _ (pd_ne f94 f101 (by simp)) f94
            refine lv_iconst (v := nI 0) hx hb d_p15m31_291 (by decide) ?_
            refine lv_istore (lv' := [(8, .int (nI 0)), (7, .int (nI k)), (6, .int (pd_b la)), (5, .int (nI (eA 1))), (4, .int (nI jc)), (3, .int (nI mm)), (0, .ref y), (1, .int (nI nw)), (2, .int (nI 1))]) hx hb d_p15m31_292 hl (by decide) rfl (fun ls hl => ?_)
            have mo120 : pd_MO G h106 y ad (pd_fu (pd_fu (pd_fu (pd_fu fv 13 (upd (fv 13) k (nI jc))) 14 (upd (fv 14) k (nI mm))) 16 (upd (fv 16) k (nI ((eA 1) - (gm_name cs (sA 1) (eA 1) + 1))))) 19 (upd (fv 19) k (nI 1))) (pd_fu (pd_fu iv 38 (nI (gm_name cs (sA 1) (eA 1)))) 40 (nI (gm_name cs (sA 1) (eA 1) + 1))) tl := pd_MO.of (ts := [43, 44, 49, 46]) hMO2 (pd_kx.tr (pd_kx.mono (us := [43, 44, 49, 46]) (pd_kx.tr (pd_kx.mono (us := [43, 44, 49]) (pd_kx.tr (pd_kx.mono (us := [43, 44]) (pd_kq.kx (k65) ha13) (by simp)) (pd_kx.mono (us := [43, 44]) (pd_kq.kx (k79) f72) (by simp))) (by simp)) (pd_kx.mono (us := [43, 44, 49]) (pd_kq.kx (k93) f90) (by simp))) (by simp)) (pd_kx.mono (us := [43, 44, 49, 46]) (pd_kq.kx (k107) f101) (by simp))) f110 (fun j hj => if e13 : j = 13 then by subst e13; exact Or.inl f117 else if e14 : j = 14 then by subst e14; exact Or.inl f118 else if e16 : j = 16 then by subst e16; exact Or.inl f108 else if e19 : j = 19 then by subst e19; exact Or.inl f119 else Or.inr ⟨fun z => by first | (simp at z; done) | (simp at z; omega), by rw [pd_fu_n e19, pd_fu_n e16, pd_fu_n e14, pd_fu_n e13]⟩)
            exact lp_Mod_addM_294 l G h hMO hL hC hM hW hw2 hbda hism hmk hsv X hmn (100 + 1) 0 jc mm (fv 15) h106 (hk2.tr (pd_kx.mono (us := [20, 43, 44, 45, 46, 47, 48, 49]) (pd_kx.tr (pd_kx.mono (us := [43, 44, 49, 46]) (pd_kx.tr (pd_kx.mono (us := [43, 44, 49]) (pd_kx.tr (pd_kx.mono (us := [43, 44]) (pd_kq.kx (k65) ha13) (by simp)) (pd_kx.mono (us := [43, 44]) (pd_kq.kx (k79) f72) (by simp))) (by simp)) (pd_kx.mono (us := [43, 44, 49]) (pd_kq.kx (k93) f90) (by simp))) (by simp)) (pd_kx.mono (us := [43, 44, 49, 46]) (pd_kq.kx (k107) f101) (by simp))) (by simp))) ((pd_MO.ext (fv2 := pd_fu (pd_fu (pd_fu (pd_fu (pd_fu fv 13 (upd (fv 13) k (nI jc))) 14 (upd (fv 14) k (nI mm))) 15 (fv 15)) 16 (upd (fv 16) k (nI ((eA 1) - (gm_name cs (sA 1) (eA 1) + 1))))) 19 (upd (fv 19) k (nI 1))) (iv2 := pd_fu (pd_fu iv 38 (nI (gm_name cs (sA 1) (eA 1)))) 40 (nI (gm_name cs (sA 1) (eA 1) + 1))) mo120 (fun j9 hj9 => by by_cases e913 : j9 = 13; subst e913; rfl; by_cases e914 : j9 = 14; subst e914; rfl; by_cases e915 : j9 = 15; subst e915; rfl; by_cases e916 : j9 = 16; subst e916; rfl; by_cases e919 : j9 = 19; subst e919; rfl; simp only [pd_fu, if_neg e913, if_neg e914, if_neg e915, if_neg e916, if_neg e919]) rfl)) (hn34) (hmem) (hc2) (hmk9) (hfq) (hgq) (by omega) (hns q62) (by omega) (by omega) (fun t ht => absurd ht (Nat.not_lt_zero t)) (fun _ _ => rfl) (by omega) _ _ w ls (lv_sub hl [0, 1, 3, 4, 5, 6, 7, 8] rfl)
          · -- not taken: 243
            refine lv_bipush (v := -5) hx hb d_p15m31_243 (by decide) ?_
            have hg : gr_dm n R k M cs = (-5, k, M) := by unfold gr_dm; simp only [← (hbda hmem).1, ← (hbda hmem).2, ← hw2, hfq.symm, hgq.symm]; rw [if_neg (hns q62), gr_madd_n (by omega)]
            exact pd_iret (v := (-5)) X w (Or.inr ⟨⟨hn34, hmem, hc2, by rw [hmk9]; simp⟩, by rw [hg], hk2, _, _, hMO2, ⟨fun _ _ => rfl, fun j hj => by simp at hj; simp [pd_fu, hj]⟩, (by rw [hg]; exact hM)⟩) (by decide) (by decide) d_p15m31_245
        · -- not taken: 231
          exact absurd (q61.symm.trans q62) (by simp)
      · -- not taken: 184
        have hq9 := (hsm q61).1
        refine lv_aload_n hx hb d_p15m31_184 rfl (lv_at hl 5 rfl) ?_
        refine pd_get X w hy2 rfl 0 (by decide) mT_1139 rfl rfl d_p15m31_185 ?_
        refine lv_aload_n hx hb d_p15m31_188 rfl (lv_at hl 5 rfl) ?_
        refine pd_get X w hy2 rfl 40 (by decide) mT_1179 rfl rfl d_p15m31_189 ?_
        refine lv_iload hx hb d_p15m31_192 (lv_at hl 0 rfl) ?_
        refine pd_iadd hx hb d_p15m31_194 ?_
        refine pd_iald X w ha0 (by omega) (by omega) d_p15m31_195 ?_
        refine pd_top (v' := .int (nI (cs.getD ((gm_name cs (sA 1) (eA 1) + 1) + ii) 0))) (congrArg Value.int (hln _ (by omega))) ?_
        have := tx_lt hlc ((gm_name cs (sA 1) (eA 1) + 1) + ii)
        refine lv_ldc2 (v := 7312272859201431910) hx hb X.2.2.2.2.1 (X.2.2.2.2.2.1 _ mT_1366) d_p15m31_196 ?_
        refine lv_bipush (v := nI 8) hx hb d_p15m31_199 (by decide) ?_
        refine lv_iload hx hb d_p15m31_201 (lv_at hl 0 rfl) ?_
        refine pd_imul hx hb d_p15m31_203 ?_
        refine lv_lshr hx hb d_p15m31_204 rfl ?_
        refine lv_ldc2 (v := 255) hx hb X.2.2.2.2.1 (X.2.2.2.2.2.1 _ mT_1137) d_p15m31_205 ?_
        refine lv_land hx hb d_p15m31_208 ?_
        refine lv_l2i hx hb d_p15m31_209 rfl ?_
        refine pd_top (v' := .int (nI (gm_oc 7312272859201431910 ii))) (congrArg Value.int (gm_oct _)) ?_
        have hoc := gm_oc_lt 7312272859201431910 ii
        refine pd_jne (tgt := 217) hx hb d_p15m31_210 (by decide) (by omega) (by omega) (fun q121 => ?_) (fun q121 => ?_)
        · -- taken: 217
          refine lv_iconst (v := nI 0) hx hb d_p15m31_217 (by decide) ?_
          refine lv_istore (lv' := [(6, .int (nI 0)), (7, .int (nI ii)), (5, .int (nI (eA 1))), (4, .int (nI jc)), (3, .int (nI mm)), (0, .ref y), (1, .int (nI nw)), (2, .int (nI 1))]) hx hb d_p15m31_218 hl (by decide) rfl (fun ls hl => ?_)
          refine pd_iinc (k := 1) (d := 1) (lv' := [(7, .int (nI (ii + 1))), (6, .int (nI 0)), (5, .int (nI (eA 1))), (4, .int (nI jc)), (3, .int (nI mm)), (0, .ref y), (1, .int (nI nw)), (2, .int (nI 1))]) hx hb d_p15m31_220 (by decide) hl rfl (by decide) rfl (fun ls hl => ?_)
          refine lv_goto (tgt := 172) hx hb d_p15m31_223 (by decide) ?_
          exact ih (ii + 1) false jc mm hh (hk2.tr (pd_kx.rf)) (hMO2) (hn34) (hmem) (hc2) (hmk9) (hfq) (hgq) (by omega) (by omega) (fun z => by cases z) (fun _ => gm_fin_n2 (t := ii) (by omega) (by omega) (by omega)) (by omega) _ _ w ls (lv_sub hl [0, 1, 2, 3, 4, 5, 6, 7] rfl)
        · -- not taken: 213
          refine lv_iconst (v := nI 1) hx hb d_p15m31_213 (by decide) ?_
          refine lv_goto (tgt := 218) hx hb d_p15m31_214 (by decide) ?_
          refine lv_istore (lv' := [(6, .int (nI 1)), (7, .int (nI ii)), (5, .int (nI (eA 1))), (4, .int (nI jc)), (3, .int (nI mm)), (0, .ref y), (1, .int (nI nw)), (2, .int (nI 1))]) hx hb d_p15m31_218 hl (by decide) rfl (fun ls hl => ?_)
          refine pd_iinc (k := 1) (d := 1) (lv' := [(7, .int (nI (ii + 1))), (6, .int (nI 1)), (5, .int (nI (eA 1))), (4, .int (nI jc)), (3, .int (nI mm)), (0, .ref y), (1, .int (nI nw)), (2, .int (nI 1))]) hx hb d_p15m31_220 (by decide) hl rfl (by decide) rfl (fun ls hl => ?_)
          refine lv_goto (tgt := 172) hx hb d_p15m31_223 (by decide) ?_
          exact ih (ii + 1) true jc mm hh (hk2.tr (pd_kx.rf)) (hMO2) (hn34) (hmem) (hc2) (hmk9) (hfq) (hgq) (by omega) (by omega) (fun _ => ⟨(hsm q61).1, (hsm q61).2.1, fun t ht => by by_cases e9 : t = ii; subst e9; omega; exact (hsm q61).2.2 t (by omega)⟩) (fun z => by cases z) (by omega) _ _ w ls (lv_sub hl [0, 1, 2, 3, 4, 5, 6, 7] rfl)
set_option maxHeartbeats 4000000 in
set_option maxRecDepth 100000 in
theorem c_Mod_addM (l : Launch) (G : pd_G) (h : pd_H) {y : Nat} {ad : Nat → Nat} {fv : Nat → Nat → Int32} {iv : Nat → Int32} {tl : Int64} {cs : List Nat} {n : Nat} {R : Nat → pd_cr} {k : Nat} {M : Nat → pd_mr} {nw : Nat} {sA eA : Nat → Nat} (hMO : pd_MO G h y ad fv iv tl) (hL : gm_L fv iv cs) (hC : gm_C fv iv n R) (hM : gm_M fv iv n k M) (hW : gm_W fv cs nw sA eA) (hw2 : tx_sub cs (sA 2) (eA 2) = gr_w cs 2) (hbda : gm_mem cs (sA 1) (eA 1) = true → tx_sub cs (sA 1) (gm_name cs (sA 1) (eA 1)) = gr_bd (gr_w cs 1) ∧ tx_sub cs (gm_name cs (sA 1) (eA 1) + 1) (eA 1) = gr_ad (gr_w cs 1)) (hism : gm_shape cs (sA 2) (eA 2) = true → gr_ism (gr_w cs 2) = true) (hmk : ∀ t, (if nw = 4 then gm_mk cs (eA 3) (eA 3 - sA 3) (sA 3) 0 else some 0) = some t → t = gr_mk (gr_w cs 3) ∧ t < 4) (hsv : gm_shape cs (sA 2) (eA 2) = true → eA 2 - sA 2 = 3 → cs.getD (eA 2 - 1) 0 = 86 → gr_w cs 2 = [40, 41, 86]) : pd_M l y_Mod_addM prog_15_method_31_code 9 (some .int) rm_Mod_addM G h [.ref y, .int (nI nw), .int (nI 1)] Value.int (fun r h1 => (¬ ((3 ≤ nw ∧ nw ≤ 4) ∧ gm_mem cs (sA 1) (eA 1) = true ∧ (gm_shape cs (sA 2) (eA 2) = true) ∧ ¬ (if nw = 4 then gm_mk cs (eA 3) (eA 3 - sA 3) (sA 3) 0 else some 0) = none) ∧ r = -1 ∧ pd_kx [20, 43, 44, 45, 46, 47, 48, 49] h h1 ∧ ∃ fv2 iv2, pd_MO G h1 y ad fv2 iv2 tl ∧ gm_fr [13, 14, 15, 16, 17, 18, 19] [20, 38, 40] fv iv fv2 iv2 ∧ gm_M fv2 iv2 n k M) ∨ (((3 ≤ nw ∧ nw ≤ 4) ∧ gm_mem cs (sA 1) (eA 1) = true ∧ (gm_shape cs (sA 2) (eA 2) = true) ∧ ¬ (if nw = 4 then gm_mk cs (eA 3) (eA 3 - sA 3) (sA 3) 0 else some 0) = none) ∧ r = (gr_dm n R k M cs).1 ∧ pd_kx [20, 43, 44, 45, 46, 47, 48, 49] h h1 ∧ ∃ fv2 iv2, pd_MO G h1 y ad fv2 iv2 tl ∧ gm_fr [13, 14, 15, 16, 17, 18, 19] [20, 38, 40] fv iv fv2 iv2 ∧ gm_M fv2 iv2 n (gr_dm n R k M cs).2.1 (gr_dm n R k M cs).2.2)) := by
  refine pd_M.of (by decide) (Nat.le_of_ble_eq_true rfl) ?_
  intro p e s m below meth c X hmn w ls hl
  have hx := X.1
  have hb := X.2.1
  have hl : lv_has ls 9 [(0, .ref y), (1, .int (nI nw)), (2, .int (nI 1))] := hl
  have hz_y := hMO.2.1
  have hy0 : h y = some (20, .inr (10, [.ref (ad 0), .ref (ad 1), .ref (ad 2), .int (iv 3), .int (iv 4), .int (iv 5), .ref (ad 6), .ref (ad 7), .ref (ad 8), .ref (ad 9), .ref (ad 10), .ref (ad 11), .int (iv 12), .ref (ad 13), .ref (ad 14), .ref (ad 15), .ref (ad 16), .ref (ad 17), .ref (ad 18), .ref (ad 19), .int (iv 20), .ref (ad 21), .ref (ad 22), .ref (ad 23), .ref (ad 24), .ref (ad 25), .ref (ad 26), .ref (ad 27), .ref (ad 28), .int (iv 29), .ref (ad 30), .ref (ad 31), .int (iv 32), .int (iv 33), .int (iv 34), .int (iv 35), .long tl, .int (iv 37), .int (iv 38), .int (iv 39), .int (iv 40), .ref (ad 41), .ref (ad 42), .int (iv 43)])) := hMO.1
  have ha0 : h (ad 0) = some (30, .inl (.int, 60, .inl (fv 0))) := (hMO.2.2 0 (by decide)).1
  have ha1 : h (ad 1) = some (31, .inl (.int, 40, .inl (fv 1))) := (hMO.2.2 1 (by decide)).1
  have ha2 : h (ad 2) = some (32, .inl (.int, 40, .inl (fv 2))) := (hMO.2.2 2 (by decide)).1
  have ha13 : h (ad 13) = some (43, .inl (.int, 24, .inl (fv 13))) := (hMO.2.2 13 (by decide)).1
  have ha14 : h (ad 14) = some (44, .inl (.int, 24, .inl (fv 14))) := (hMO.2.2 14 (by decide)).1
  have ha15 : h (ad 15) = some (45, .inl (.int, 288, .inl (fv 15))) := (hMO.2.2 15 (by decide)).1
  have ha16 : h (ad 16) = some (46, .inl (.int, 24, .inl (fv 16))) := (hMO.2.2 16 (by decide)).1
  have ha17 : h (ad 17) = some (47, .inl (.int, 1440, .inl (fv 17))) := (hMO.2.2 17 (by decide)).1
  have ha18 : h (ad 18) = some (48, .inl (.int, 24, .inl (fv 18))) := (hMO.2.2 18 (by decide)).1
  have ha19 : h (ad 19) = some (49, .inl (.boolean, 24, .inl (fv 19))) := (hMO.2.2 19 (by decide)).1
  obtain ⟨hiv3, hln, hl60, hlc⟩ := id hL
  obtain ⟨hiv12, hn2, hn14, hCc⟩ := id hC
  obtain ⟨hiv20, hk24, hMm⟩ := id hM
  have hw31 := hW.1
  refine lv_iload_n hx hb d_p15m31_0 rfl (lv_at hl 1 rfl) ?_
  refine lv_iconst (v := nI 3) hx hb d_p15m31_1 (by decide) ?_
  refine lv_iconst (v := nI 4) hx hb d_p15m31_2 (by decide) ?_
  refine pd_cS (As := [.int (nI nw), .int (nI 3), .int (nI 4)]) (rest := []) X w (c_Mod_in l G h (x := nw) (a := 3) (b := 4) (by omega) (by omega) (by omega)) ok_Mod_in mT_1278 mT_1277 ⟨by decide, by decide⟩ rfl hl.1 rfl (Nat.le_of_ble_eq_true rfl) d_p15m31_3 ⟨by decide, by decide⟩ (fun r1 h2 H locs hp3 w => ?_)
  refine W.widen (k := 0) (n := 0) (by decide) (by decide) ?_
  obtain ⟨e4, rfl⟩ := hp3
  refine pd_beq (tgt := 40) hx hb d_p15m31_6 (by decide) (fun q5 => ?_) (fun q5 => ?_)
  · -- taken: 40
    refine lv_iconst (v := -1) hx hb d_p15m31_40 (by decide) ?_
    exact pd_iret (v := (-1)) X w (Or.inl ⟨(fun z => of_decide_eq_false (e4.symm.trans q5) z.1), rfl, pd_kx.rf, _, _, hMO, ⟨fun _ _ => rfl, fun j hj => by simp at hj; simp [pd_fu, hj]⟩, hM⟩) (by decide) (by decide) d_p15m31_41
  · -- not taken: 9
    have hn34 := of_decide_eq_true (e4.symm.trans q5)
    refine lv_aload_n hx hb d_p15m31_9 rfl (lv_at hl 0 rfl) ?_
    refine lv_iconst (v := nI 1) hx hb d_p15m31_10 (by decide) ?_
    refine pd_cV (a := y) (As := [.int (nI 1)]) (rest := []) X w hy0 rfl (c_Mod_isMember l G h (cs := cs) (nw := nw) (sA := sA) (eA := eA) (ad := ad) (fv := fv) (iv := iv) (tl := tl) hMO hL hW (by omega)) ok_Mod_isMember ⟨mT_1340, sT_24⟩ mT_1338 ⟨by decide, by decide⟩ rfl hl.1 rfl (Nat.le_of_ble_eq_true rfl) d_p15m31_11 ⟨by decide, by decide⟩ (fun r6 h7 H locs hp8 w => ?_)
    refine W.widen (k := 0) (n := 0) (by decide) (by decide) ?_
    obtain ⟨e9, k10, f11⟩ := hp8
    have f12 := k10 _ _ ha0 (show (30 : Nat) ∉ [20] by decide)
    have f13 := k10 _ _ ha1 (show (31 : Nat) ∉ [20] by decide)
    have f14 := k10 _ _ ha2 (show (32 : Nat) ∉ [20] by decide)
    have f15 := k10 _ _ ha13 (show (43 : Nat) ∉ [20] by decide)
    have f16 := k10 _ _ ha14 (show (44 : Nat) ∉ [20] by decide)
    have f17 := k10 _ _ ha15 (show (45 : Nat) ∉ [20] by decide)
    have f18 := k10 _ _ ha16 (show (46 : Nat) ∉ [20] by decide)
    have f19 := k10 _ _ ha17 (show (47 : Nat) ∉ [20] by decide)
    have f20 := k10 _ _ ha18 (show (48 : Nat) ∉ [20] by decide)
    have f21 := k10 _ _ ha19 (show (49 : Nat) ∉ [20] by decide)
    have hy22 : h7 y = some (20, .inr (10, [.ref (ad 0), .ref (ad 1), .ref (ad 2), .int (iv 3), .int (iv 4), .int (iv 5), .ref (ad 6), .ref (ad 7), .ref (ad 8), .ref (ad 9), .ref (ad 10), .ref (ad 11), .int (iv 12), .ref (ad 13), .ref (ad 14), .ref (ad 15), .ref (ad 16), .ref (ad 17), .ref (ad 18), .ref (ad 19), .int (iv 20), .ref (ad 21), .ref (ad 22), .ref (ad 23), .ref (ad 24), .ref (ad 25), .ref (ad 26), .ref (ad 27), .ref (ad 28), .int (iv 29), .ref (ad 30), .ref (ad 31), .int (iv 32), .int (iv 33), .int (iv 34), .int (iv 35), .long tl, .int (iv 37), .int (nI (gm_name cs (sA 1) (eA 1))), .int (iv 39), .int (nI (gm_name cs (sA 1) (eA 1) + 1)), .ref (ad 41), .ref (ad 42), .int (iv 43)])) := f11.1
    have ha23 : h7 (ad 0) = some (30, .inl (.int, 60, .inl (fv 0))) := (f11.2.2 0 (by decide)).1
    have ha24 : h7 (ad 1) = some (31, .inl (.int, 40, .inl (fv 1))) := (f11.2.2 1 (by decide)).1
    have ha25 : h7 (ad 2) = some (32, .inl (.int, 40, .inl (fv 2))) := (f11.2.2 2 (by decide)).1
    have ha26 : h7 (ad 13) = some (43, .inl (.int, 24, .inl (fv 13))) := (f11.2.2 13 (by decide)).1
    have ha27 : h7 (ad 14) = some (44, .inl (.int, 24, .inl (fv 14))) := (f11.2.2 14 (by decide)).1
    have ha28 : h7 (ad 15) = some (45, .inl (.int, 288, .inl (fv 15))) := (f11.2.2 15 (by decide)).1
    have ha29 : h7 (ad 16) = some (46, .inl (.int, 24, .inl (fv 16))) := (f11.2.2 16 (by decide)).1
    have ha30 : h7 (ad 17) = some (47, .inl (.int, 1440, .inl (fv 17))) := (f11.2.2 17 (by decide)).1
    have ha31 : h7 (ad 18) = some (48, .inl (.int, 24, .inl (fv 18))) := (f11.2.2 18 (by decide)).1
    have ha32 : h7 (ad 19) = some (49, .inl (.boolean, 24, .inl (fv 19))) := (f11.2.2 19 (by decide)).1
    refine pd_beq (tgt := 40) hx hb d_p15m31_14 (by decide) (fun q33 => ?_) (fun q33 => ?_)
    · -- taken: 40
      refine lv_iconst (v := -1) hx hb d_p15m31_40 (by decide) ?_
      exact pd_iret (v := (-1)) X w (Or.inl ⟨(fun z => by have z1 := z.2.1; rw [← e9, q33] at z1; cases z1), rfl, pd_kx.mono (us := [20, 43, 44, 45, 46, 47, 48, 49]) (k10) (by simp), _, _, f11, ⟨fun _ _ => rfl, fun j hj => by simp at hj; simp [pd_fu, hj]⟩, hM⟩) (by decide) (by decide) d_p15m31_41
    · -- not taken: 17
      have hmem := e9.symm.trans q33
      have hmb := of_decide_eq_true hmem
      have hwl2 := (hW.2 2 (by omega)).2.2
      have hwl1 := (hW.2 1 (by omega)).2.2
      refine lv_iload_n hx hb d_p15m31_17 rfl (lv_at hl 2 rfl) ?_
      refine pd_zeq (tgt := 32) hx hb d_p15m31_18 (by decide) (by decide) (fun q => absurd q (by decide)) (fun _ => ?_)
      refine lv_aload_n hx hb d_p15m31_21 rfl (lv_at hl 0 rfl) ?_
      refine lv_iconst (v := nI 2) hx hb d_p15m31_22 (by decide) ?_
      refine pd_cV (a := y) (As := [.int (nI 2)]) (rest := []) X w hy22 rfl (c_Mod_isShape l G h7 (cs := cs) (nw := nw) (sA := sA) (eA := eA) (ad := ad) (fv := fv) (iv := pd_fu (pd_fu iv 38 (nI (gm_name cs (sA 1) (eA 1)))) 40 (nI (gm_name cs (sA 1) (eA 1) + 1))) (tl := tl) f11 hL hW (by omega)) ok_Mod_isShape ⟨mT_1344, sT_25⟩ mT_1342 ⟨by decide, by decide⟩ rfl hl.1 rfl (Nat.le_of_ble_eq_true rfl) d_p15m31_23 ⟨by decide, by decide⟩ (fun r35 h36 H locs hp37 w => ?_)
      refine W.widen (k := 0) (n := 0) (by decide) (by decide) ?_
      obtain ⟨e38, rfl⟩ := hp37
      refine pd_bne (tgt := 42) hx hb d_p15m31_26 (by decide) (fun q39 => ?_) (fun q39 => ?_)
      · -- taken: 42
        have hc2 : gm_shape cs (sA 2) (eA 2) = true := e38.symm.trans q39
        refine lv_iload_n hx hb d_p15m31_42 rfl (lv_at hl 1 rfl) ?_
        refine lv_iconst (v := nI 4) hx hb d_p15m31_43 (by decide) ?_
        refine pd_jne (tgt := 55) hx hb d_p15m31_44 (by decide) (by omega) (by omega) (fun q40 => ?_) (fun q40 => ?_)
        · -- taken: 55
          have hnw4 : ¬ nw = 4 := q40
          refine lv_iconst (v := nI 0) hx hb d_p15m31_55 (by decide) ?_
          refine lv_istore_n (lv' := [(3, .int (nI 0)), (0, .ref y), (1, .int (nI nw)), (2, .int (nI 1))]) hx hb d_p15m31_56 rfl hl (by decide) rfl (fun ls hl => ?_)
          refine lv_iload_n hx hb d_p15m31_57 rfl (lv_at hl 0 rfl) ?_
          refine pd_zge (tgt := 63) hx hb d_p15m31_58 (by decide) (by omega) ?_
          have hmk9 : (if nw = 4 then gm_mk cs (eA 3) (eA 3 - sA 3) (sA 3) 0 else some 0) = some 0 := by rw [if_neg hnw4]
          have hmm := hmk _ hmk9
          refine lv_aload_n hx hb d_p15m31_63 rfl (lv_at hl 1 rfl) ?_
          refine lv_aload_n hx hb d_p15m31_64 rfl (lv_at hl 1 rfl) ?_
          refine pd_get X w hy22 rfl 1 (by decide) mT_1140 rfl rfl d_p15m31_65 ?_
          refine lv_iconst (v := nI 1) hx hb d_p15m31_68 (by decide) ?_
          refine pd_iald X w ha24 (by omega) (by omega) d_p15m31_69 ?_
          refine pd_top (v' := .int (nI (sA 1))) (congrArg Value.int (hW.2 1 (by omega)).1) ?_
          refine lv_aload_n hx hb d_p15m31_70 rfl (lv_at hl 1 rfl) ?_
          refine pd_get X w hy22 rfl 38 (by decide) mT_1177 rfl rfl d_p15m31_71 ?_
          refine pd_cV (a := y) (As := [.int (nI (sA 1)), .int (nI (gm_name cs (sA 1) (eA 1)))]) (rest := []) X w hy22 rfl (c_Mod_find l G h7 (ad := ad) (fv := fv) (iv := pd_fu (pd_fu iv 38 (nI (gm_name cs (sA 1) (eA 1)))) 40 (nI (gm_name cs (sA 1) (eA 1) + 1))) (tl := tl) f11 hL hC (by omega) (by omega)) ok_Mod_find ⟨mT_1326, sT_21⟩ mT_1324 ⟨by decide, by decide⟩ rfl hl.1 rfl (Nat.le_of_ble_eq_true rfl) d_p15m31_74 ⟨by decide, by decide⟩ (fun r42 h43 H locs hp44 w => ?_)
          refine W.widen (k := 0) (n := 0) (by decide) (by decide) ?_
          obtain ⟨e45, rfl⟩ := hp44
          refine lv_istore (lv' := [(4, .int (pd_m r42)), (3, .int (nI 0)), (0, .ref y), (1, .int (nI nw)), (2, .int (nI 1))]) hx hb d_p15m31_77 hl (by decide) rfl (fun ls hl => ?_)
          refine lv_aload_n hx hb d_p15m31_79 rfl (lv_at hl 2 rfl) ?_
          refine pd_get X w hy22 rfl 2 (by decide) mT_1141 rfl rfl d_p15m31_80 ?_
          refine lv_iconst (v := nI 1) hx hb d_p15m31_83 (by decide) ?_
          refine pd_iald X w ha25 (by omega) (by omega) d_p15m31_84 ?_
          refine pd_top (v' := .int (nI (eA 1))) (congrArg Value.int (hW.2 1 (by omega)).2.1) ?_
          refine lv_istore (lv' := [(5, .int (nI (eA 1))), (4, .int (pd_m r42)), (3, .int (nI 0)), (0, .ref y), (1, .int (nI nw)), (2, .int (nI 1))]) hx hb d_p15m31_85 hl (by decide) rfl (fun ls hl => ?_)
          refine lv_iload hx hb d_p15m31_87 (lv_at hl 1 rfl) ?_
          refine pd_mge (tgt := 95) hx hb d_p15m31_89 (by decide) (fun x hx => by have z := gr_fi_lt (e45.symm.trans hx); omega) (fun q46 => ?_) (fun j47 q46 => ?_)
          · -- none: 92
            rw [q46] at e45
            rw [q46] at hl
            have hl : lv_has ls 9 [(5, .int (nI (eA 1))), (4, .int (-1)), (3, .int (nI 0)), (0, .ref y), (1, .int (nI nw)), (2, .int (nI 1))] := hl
            refine lv_bipush (v := -2) hx hb d_p15m31_92 (by decide) ?_
            have hg : gr_dm n R k M cs = (-2, k, M) := by unfold gr_dm; simp only [← (hbda hmem).1, ← (hbda hmem).2, ← hw2, e45.symm]
            exact pd_iret (v := (-2)) X w (Or.inr ⟨⟨hn34, hmem, hc2, by rw [hmk9]; simp⟩, by rw [hg], pd_kx.mono (us := [20, 43, 44, 45, 46, 47, 48, 49]) (k10) (by simp), _, _, f11, ⟨fun _ _ => rfl, fun j hj => by simp at hj; simp [pd_fu, hj]⟩, (by rw [hg]; exact hM)⟩) (by decide) (by decide) d_p15m31_94
          · -- some: 95
            rw [q46] at e45
            rw [q46] at hl
            have hl : lv_has ls 9 [(5, .int (nI (eA 1))), (4, .int (nI j47)), (3, .int (nI 0)), (0, .ref y), (1, .int (nI nw)), (2, .int (nI 1))] := hl
            have j47lt := gr_fi_lt e45.symm
            refine lv_aload_n hx hb d_p15m31_95 rfl (lv_at hl 3 rfl) ?_
            refine lv_iload hx hb d_p15m31_96 (lv_at hl 1 rfl) ?_
            refine lv_iload hx hb d_p15m31_98 (lv_at hl 0 rfl) ?_
            refine lv_iconst (v := nI 2) hx hb d_p15m31_100 (by decide) ?_
            refine lv_iload_n hx hb d_p15m31_101 rfl (lv_at hl 5 rfl) ?_
            refine pd_cV (a := y) (As := [.int (nI j47), .int (nI (eA 1)), .int (nI 2), .int (nI 1)]) (rest := []) X w hy22 rfl (c_Mod_ownW l G h7 (cs := cs) (n := n) (k := k) (M := M) (tf := gm_name cs (sA 1) (eA 1) + 1) (nw := nw) (sA := sA) (eA := eA) (mb := true) (ad := ad) (fv := fv) (iv := pd_fu (pd_fu iv 38 (nI (gm_name cs (sA 1) (eA 1)))) 40 (nI (gm_name cs (sA 1) (eA 1) + 1))) (tl := tl) f11 hL hM (by omega) (by omega) rfl (by omega) (by omega) hW (by omega) (by rw [hw2]; exact hism hc2)) ok_Mod_ownW ⟨mT_1360, sT_29⟩ mT_1358 ⟨by decide, by decide⟩ rfl hl.1 rfl (Nat.le_of_ble_eq_true rfl) d_p15m31_102 ⟨by decide, by decide⟩ (fun r48 h49 H locs hp50 w => ?_)
            refine W.widen (k := 0) (n := 0) (by decide) (by decide) ?_
            obtain ⟨e51, rfl⟩ := hp50
            refine pd_mlt (tgt := 111) hx hb d_p15m31_105 (by decide) (fun x hx => by have z := gr_fi_lt (e51.symm.trans hx); omega) (fun q52 => ?_) (fun j53 q52 => ?_)
            · -- none: 111
              rw [q52] at e51
              refine lv_iload_n hx hb d_p15m31_111 rfl (lv_at hl 5 rfl) ?_
              refine pd_zeq (tgt := 166) hx hb d_p15m31_112 (by decide) (by decide) (fun q => absurd q (by decide)) (fun _ => ?_)
              refine lv_iload hx hb d_p15m31_115 (lv_at hl 0 rfl) ?_
              refine lv_aload_n hx hb d_p15m31_117 rfl (lv_at hl 3 rfl) ?_
              refine pd_get X w hy22 rfl 40 (by decide) mT_1179 rfl rfl d_p15m31_118 ?_
              refine pd_isub hx hb d_p15m31_121 (by omega) ?_
              refine lv_bipush (v := nI 8) hx hb d_p15m31_122 (by decide) ?_
              refine pd_jne (tgt := 166) hx hb d_p15m31_124 (by decide) (by omega) (by omega) (fun q55 => ?_) (fun q55 => ?_)
              · -- taken: 166
                refine lv_iconst (v := nI 0) hx hb d_p15m31_166 (by decide) ?_
                refine lv_istore (lv' := [(6, .int (nI 0)), (5, .int (nI (eA 1))), (4, .int (nI j47)), (3, .int (nI 0)), (0, .ref y), (1, .int (nI nw)), (2, .int (nI 1))]) hx hb d_p15m31_167 hl (by decide) rfl (fun ls hl => ?_)
                refine lv_iconst (v := nI 0) hx hb d_p15m31_169 (by decide) ?_
                refine lv_istore (lv' := [(7, .int (nI 0)), (6, .int (nI 0)), (5, .int (nI (eA 1))), (4, .int (nI j47)), (3, .int (nI 0)), (0, .ref y), (1, .int (nI nw)), (2, .int (nI 1))]) hx hb d_p15m31_170 hl (by decide) rfl (fun ls hl => ?_)
                exact lp_Mod_addM_172 l G h hMO hL hC hM hW hw2 hbda hism hmk hsv X hmn (8 + 1) 0 false j47 0 h7 (pd_kx.mono (us := [20, 43, 44, 45, 46, 47, 48, 49]) (k10) (by simp)) (f11) (hn34) (hmem) (hc2) (hmk9) (e45) (e51) (by omega) (by omega) (fun z => by cases z) (fun _ => gm_fin_n1 (by omega) (by omega) (fun z => by omega)) (by omega) _ _ w ls (lv_sub hl [0, 1, 2, 3, 4, 5, 6, 7] rfl)
              · -- not taken: 127
                refine lv_aload_n hx hb d_p15m31_127 rfl (lv_at hl 3 rfl) ?_
                refine pd_get X w hy22 rfl 2 (by decide) mT_1141 rfl rfl d_p15m31_128 ?_
                refine lv_iconst (v := nI 2) hx hb d_p15m31_131 (by decide) ?_
                refine pd_iald X w ha25 (by omega) (by omega) d_p15m31_132 ?_
                refine pd_top (v' := .int (nI (eA 2))) (congrArg Value.int (hW.2 2 (by omega)).2.1) ?_
                refine lv_aload_n hx hb d_p15m31_133 rfl (lv_at hl 3 rfl) ?_
                refine pd_get X w hy22 rfl 1 (by decide) mT_1140 rfl rfl d_p15m31_134 ?_
                refine lv_iconst (v := nI 2) hx hb d_p15m31_137 (by decide) ?_
                refine pd_iald X w ha24 (by omega) (by omega) d_p15m31_138 ?_
                refine pd_top (v' := .int (nI (sA 2))) (congrArg Value.int (hW.2 2 (by omega)).1) ?_
                refine pd_isub hx hb d_p15m31_139 (by omega) ?_
                refine lv_iconst (v := nI 3) hx hb d_p15m31_140 (by decide) ?_
                refine pd_jne (tgt := 166) hx hb d_p15m31_141 (by decide) (by omega) (by omega) (fun q56 => ?_) (fun q56 => ?_)
                · -- taken: 166
                  refine lv_iconst (v := nI 0) hx hb d_p15m31_166 (by decide) ?_
                  refine lv_istore (lv' := [(6, .int (nI 0)), (5, .int (nI (eA 1))), (4, .int (nI j47)), (3, .int (nI 0)), (0, .ref y), (1, .int (nI nw)), (2, .int (nI 1))]) hx hb d_p15m31_167 hl (by decide) rfl (fun ls hl => ?_)
                  refine lv_iconst (v := nI 0) hx hb d_p15m31_169 (by decide) ?_
                  refine lv_istore (lv' := [(7, .int (nI 0)), (6, .int (nI 0)), (5, .int (nI (eA 1))), (4, .int (nI j47)), (3, .int (nI 0)), (0, .ref y), (1, .int (nI nw)), (2, .int (nI 1))]) hx hb d_p15m31_170 hl (by decide) rfl (fun ls hl => ?_)
                  exact lp_Mod_addM_172 l G h hMO hL hC hM hW hw2 hbda hism hmk hsv X hmn (8 + 1) 0 false j47 0 h7 (pd_kx.mono (us := [20, 43, 44, 45, 46, 47, 48, 49]) (k10) (by simp)) (f11) (hn34) (hmem) (hc2) (hmk9) (e45) (e51) (by omega) (by omega) (fun z => by cases z) (fun _ => gm_fin_n1 (by omega) (by omega) (fun z => by omega)) (by omega) _ _ w ls (lv_sub hl [0, 1, 2, 3, 4, 5, 6, 7] rfl)
                · -- not taken: 144
                  refine lv_aload_n hx hb d_p15m31_144 rfl (lv_at hl 3 rfl) ?_
                  refine pd_get X w hy22 rfl 0 (by decide) mT_1139 rfl rfl d_p15m31_145 ?_
                  refine lv_aload_n hx hb d_p15m31_148 rfl (lv_at hl 3 rfl) ?_
                  refine pd_get X w hy22 rfl 2 (by decide) mT_1141 rfl rfl d_p15m31_149 ?_
                  refine lv_iconst (v := nI 2) hx hb d_p15m31_152 (by decide) ?_
                  refine pd_iald X w ha25 (by omega) (by omega) d_p15m31_153 ?_
                  refine pd_top (v' := .int (nI (eA 2))) (congrArg Value.int (hW.2 2 (by omega)).2.1) ?_
                  refine lv_iconst (v := nI 1) hx hb d_p15m31_154 (by decide) ?_
                  refine pd_isub hx hb d_p15m31_155 (by omega) ?_
                  refine pd_iald X w ha23 (by omega) (by omega) d_p15m31_156 ?_
                  refine pd_top (v' := .int (nI (cs.getD ((eA 2) - 1) 0))) (congrArg Value.int (hln _ (by omega))) ?_
                  have := tx_lt hlc ((eA 2) - 1)
                  refine lv_bipush (v := nI 86) hx hb d_p15m31_157 (by decide) ?_
                  refine pd_jne (tgt := 166) hx hb d_p15m31_159 (by decide) (by omega) (by omega) (fun q57 => ?_) (fun q57 => ?_)
                  · -- taken: 166
                    refine lv_iconst (v := nI 0) hx hb d_p15m31_166 (by decide) ?_
                    refine lv_istore (lv' := [(6, .int (nI 0)), (5, .int (nI (eA 1))), (4, .int (nI j47)), (3, .int (nI 0)), (0, .ref y), (1, .int (nI nw)), (2, .int (nI 1))]) hx hb d_p15m31_167 hl (by decide) rfl (fun ls hl => ?_)
                    refine lv_iconst (v := nI 0) hx hb d_p15m31_169 (by decide) ?_
                    refine lv_istore (lv' := [(7, .int (nI 0)), (6, .int (nI 0)), (5, .int (nI (eA 1))), (4, .int (nI j47)), (3, .int (nI 0)), (0, .ref y), (1, .int (nI nw)), (2, .int (nI 1))]) hx hb d_p15m31_170 hl (by decide) rfl (fun ls hl => ?_)
                    exact lp_Mod_addM_172 l G h hMO hL hC hM hW hw2 hbda hism hmk hsv X hmn (8 + 1) 0 false j47 0 h7 (pd_kx.mono (us := [20, 43, 44, 45, 46, 47, 48, 49]) (k10) (by simp)) (f11) (hn34) (hmem) (hc2) (hmk9) (e45) (e51) (by omega) (by omega) (fun z => by cases z) (fun _ => gm_fin_n1 (by omega) (by omega) (fun z => by omega)) (by omega) _ _ w ls (lv_sub hl [0, 1, 2, 3, 4, 5, 6, 7] rfl)
                  · -- not taken: 162
                    refine lv_iconst (v := nI 1) hx hb d_p15m31_162 (by decide) ?_
                    refine lv_goto (tgt := 167) hx hb d_p15m31_163 (by decide) ?_
                    refine lv_istore (lv' := [(6, .int (nI 1)), (5, .int (nI (eA 1))), (4, .int (nI j47)), (3, .int (nI 0)), (0, .ref y), (1, .int (nI nw)), (2, .int (nI 1))]) hx hb d_p15m31_167 hl (by decide) rfl (fun ls hl => ?_)
                    refine lv_iconst (v := nI 0) hx hb d_p15m31_169 (by decide) ?_
                    refine lv_istore (lv' := [(7, .int (nI 0)), (6, .int (nI 1)), (5, .int (nI (eA 1))), (4, .int (nI j47)), (3, .int (nI 0)), (0, .ref y), (1, .int (nI nw)), (2, .int (nI 1))]) hx hb d_p15m31_170 hl (by decide) rfl (fun ls hl => ?_)
                    exact lp_Mod_addM_172 l G h hMO hL hC hM hW hw2 hbda hism hmk hsv X hmn (8 + 1) 0 true j47 0 h7 (pd_kx.mono (us := [20, 43, 44, 45, 46, 47, 48, 49]) (k10) (by simp)) (f11) (hn34) (hmem) (hc2) (hmk9) (e45) (e51) (by omega) (by omega) (fun _ => ⟨by omega, by rw [hw2]; exact hsv hc2 (by omega) q57, fun t ht => absurd ht (Nat.not_lt_zero t)⟩) (fun z => by cases z) (by omega) _ _ w ls (lv_sub hl [0, 1, 2, 3, 4, 5, 6, 7] rfl)
            · -- some: 108
              rw [q52] at e51
              have j53lt := gr_fi_lt e51.symm
              refine lv_bipush (v := -3) hx hb d_p15m31_108 (by decide) ?_
              have hg : gr_dm n R k M cs = (-3, k, M) := by unfold gr_dm; simp only [← (hbda hmem).1, ← (hbda hmem).2, ← hw2, e45.symm, e51.symm]
              exact pd_iret (v := (-3)) X w (Or.inr ⟨⟨hn34, hmem, hc2, by rw [hmk9]; simp⟩, by rw [hg], pd_kx.mono (us := [20, 43, 44, 45, 46, 47, 48, 49]) (k10) (by simp), _, _, f11, ⟨fun _ _ => rfl, fun j hj => by simp at hj; simp [pd_fu, hj]⟩, (by rw [hg]; exact hM)⟩) (by decide) (by decide) d_p15m31_110
        · -- not taken: 47
          have hnw4 : nw = 4 := q40
          refine lv_aload_n hx hb d_p15m31_47 rfl (lv_at hl 0 rfl) ?_
          refine lv_iconst (v := nI 3) hx hb d_p15m31_48 (by decide) ?_
          refine pd_cV (a := y) (As := [.int (nI 3)]) (rest := []) X w hy22 rfl (c_Mod_marksOf l G h7 (cs := cs) (nw := nw) (sA := sA) (eA := eA) (ad := ad) (fv := fv) (iv := pd_fu (pd_fu iv 38 (nI (gm_name cs (sA 1) (eA 1)))) 40 (nI (gm_name cs (sA 1) (eA 1) + 1))) (tl := tl) f11 hL hW (by omega)) ok_Mod_marksOf ⟨mT_1356, sT_28⟩ mT_1354 ⟨by decide, by decide⟩ rfl hl.1 rfl (Nat.le_of_ble_eq_true rfl) d_p15m31_49 ⟨by decide, by decide⟩ (fun r58 h59 H locs hp60 w => ?_)
          refine W.widen (k := 0) (n := 0) (by decide) (by decide) ?_
          obtain ⟨e61, rfl⟩ := hp60
          refine lv_goto (tgt := 56) hx hb d_p15m31_52 (by decide) ?_
          refine lv_istore_n (lv' := [(3, .int (pd_m r58)), (0, .ref y), (1, .int (nI nw)), (2, .int (nI 1))]) hx hb d_p15m31_56 rfl hl (by decide) rfl (fun ls hl => ?_)
          refine lv_iload_n hx hb d_p15m31_57 rfl (lv_at hl 0 rfl) ?_
          refine pd_mge (tgt := 63) hx hb d_p15m31_58 (by decide) (fun x hx => by have z := (hmk x (by rw [if_pos hnw4]; exact e61.symm.trans hx)).2; omega) (fun q62 => ?_) (fun j63 q62 => ?_)
          · -- none: 61
            rw [q62] at e61
            rw [q62] at hl
            have hl : lv_has ls 9 [(3, .int (-1)), (0, .ref y), (1, .int (nI nw)), (2, .int (nI 1))] := hl
            refine lv_iconst (v := -1) hx hb d_p15m31_61 (by decide) ?_
            exact pd_iret (v := (-1)) X w (Or.inl ⟨(fun z => z.2.2.2 (by rw [if_pos hnw4]; exact e61.symm)), rfl, pd_kx.mono (us := [20, 43, 44, 45, 46, 47, 48, 49]) (k10) (by simp), _, _, f11, ⟨fun _ _ => rfl, fun j hj => by simp at hj; simp [pd_fu, hj]⟩, hM⟩) (by decide) (by decide) d_p15m31_62
          · -- some: 63
            rw [q62] at e61
            rw [q62] at hl
            have hl : lv_has ls 9 [(3, .int (nI j63)), (0, .ref y), (1, .int (nI nw)), (2, .int (nI 1))] := hl
            have j63lt := (hmk _ (by rw [if_pos hnw4]; exact e61.symm)).2
            have hmk9 : (if nw = 4 then gm_mk cs (eA 3) (eA 3 - sA 3) (sA 3) 0 else some 0) = some j63 := by rw [if_pos hnw4]; exact (e61.symm)
            have hmm := hmk _ hmk9
            refine lv_aload_n hx hb d_p15m31_63 rfl (lv_at hl 1 rfl) ?_
            refine lv_aload_n hx hb d_p15m31_64 rfl (lv_at hl 1 rfl) ?_
            refine pd_get X w hy22 rfl 1 (by decide) mT_1140 rfl rfl d_p15m31_65 ?_
            refine lv_iconst (v := nI 1) hx hb d_p15m31_68 (by decide) ?_
            refine pd_iald X w ha24 (by omega) (by omega) d_p15m31_69 ?_
            refine pd_top (v' := .int (nI (sA 1))) (congrArg Value.int (hW.2 1 (by omega)).1) ?_
            refine lv_aload_n hx hb d_p15m31_70 rfl (lv_at hl 1 rfl) ?_
            refine pd_get X w hy22 rfl 38 (by decide) mT_1177 rfl rfl d_p15m31_71 ?_
            refine pd_cV (a := y) (As := [.int (nI (sA 1)), .int (nI (gm_name cs (sA 1) (eA 1)))]) (rest := []) X w hy22 rfl (c_Mod_find l G h7 (ad := ad) (fv := fv) (iv := pd_fu (pd_fu iv 38 (nI (gm_name cs (sA 1) (eA 1)))) 40 (nI (gm_name cs (sA 1) (eA 1) + 1))) (tl := tl) f11 hL hC (by omega) (by omega)) ok_Mod_find ⟨mT_1326, sT_21⟩ mT_1324 ⟨by decide, by decide⟩ rfl hl.1 rfl (Nat.le_of_ble_eq_true rfl) d_p15m31_74 ⟨by decide, by decide⟩ (fun r64 h65 H locs hp66 w => ?_)
            refine W.widen (k := 0) (n := 0) (by decide) (by decide) ?_
            obtain ⟨e67, rfl⟩ := hp66
            refine lv_istore (lv' := [(4, .int (pd_m r64)), (3, .int (nI j63)), (0, .ref y), (1, .int (nI nw)), (2, .int (nI 1))]) hx hb d_p15m31_77 hl (by decide) rfl (fun ls hl => ?_)
            refine lv_aload_n hx hb d_p15m31_79 rfl (lv_at hl 2 rfl) ?_
            refine pd_get X w hy22 rfl 2 (by decide) mT_1141 rfl rfl d_p15m31_80 ?_
            refine lv_iconst (v := nI 1) hx hb d_p15m31_83 (by decide) ?_
            refine pd_iald X w ha25 (by omega) (by omega) d_p15m31_84 ?_
            refine pd_top (v' := .int (nI (eA 1))) (congrArg Value.int (hW.2 1 (by omega)).2.1) ?_
            refine lv_istore (lv' := [(5, .int (nI (eA 1))), (4, .int (pd_m r64)), (3, .int (nI j63)), (0, .ref y), (1, .int (nI nw)), (2, .int (nI 1))]) hx hb d_p15m31_85 hl (by decide) rfl (fun ls hl => ?_)
            refine lv_iload hx hb d_p15m31_87 (lv_at hl 1 rfl) ?_
            refine pd_mge (tgt := 95) hx hb d_p15m31_89 (by decide) (fun x hx => by have z := gr_fi_lt (e67.symm.trans hx); omega) (fun q68 => ?_) (fun j69 q68 => ?_)
            · -- none: 92
              rw [q68] at e67
              rw [q68] at hl
              have hl : lv_has ls 9 [(5, .int (nI (eA 1))), (4, .int (-1)), (3, .int (nI j63)), (0, .ref y), (1, .int (nI nw)), (2, .int (nI 1))] := hl
              refine lv_bipush (v := -2) hx hb d_p15m31_92 (by decide) ?_
              have hg : gr_dm n R k M cs = (-2, k, M) := by unfold gr_dm; simp only [← (hbda hmem).1, ← (hbda hmem).2, ← hw2, e67.symm]
              exact pd_iret (v := (-2)) X w (Or.inr ⟨⟨hn34, hmem, hc2, by rw [hmk9]; simp⟩, by rw [hg], pd_kx.mono (us := [20, 43, 44, 45, 46, 47, 48, 49]) (k10) (by simp), _, _, f11, ⟨fun _ _ => rfl, fun j hj => by simp at hj; simp [pd_fu, hj]⟩, (by rw [hg]; exact hM)⟩) (by decide) (by decide) d_p15m31_94
            · -- some: 95
              rw [q68] at e67
              rw [q68] at hl
              have hl : lv_has ls 9 [(5, .int (nI (eA 1))), (4, .int (nI j69)), (3, .int (nI j63)), (0, .ref y), (1, .int (nI nw)), (2, .int (nI 1))] := hl
              have j69lt := gr_fi_lt e67.symm
              refine lv_aload_n hx hb d_p15m31_95 rfl (lv_at hl 3 rfl) ?_
              refine lv_iload hx hb d_p15m31_96 (lv_at hl 1 rfl) ?_
              refine lv_iload hx hb d_p15m31_98 (lv_at hl 0 rfl) ?_
              refine lv_iconst (v := nI 2) hx hb d_p15m31_100 (by decide) ?_
              refine lv_iload_n hx hb d_p15m31_101 rfl (lv_at hl 5 rfl) ?_
              refine pd_cV (a := y) (As := [.int (nI j69), .int (nI (eA 1)), .int (nI 2), .int (nI 1)]) (rest := []) X w hy22 rfl (c_Mod_ownW l G h7 (cs := cs) (n := n) (k := k) (M := M) (tf := gm_name cs (sA 1) (eA 1) + 1) (nw := nw) (sA := sA) (eA := eA) (mb := true) (ad := ad) (fv := fv) (iv := pd_fu (pd_fu iv 38 (nI (gm_name cs (sA 1) (eA 1)))) 40 (nI (gm_name cs (sA 1) (eA 1) + 1))) (tl := tl) f11 hL hM (by omega) (by omega) rfl (by omega) (by omega) hW (by omega) (by rw [hw2]; exact hism hc2)) ok_Mod_ownW ⟨mT_1360, sT_29⟩ mT_1358 ⟨by decide, by decide⟩ rfl hl.1 rfl (Nat.le_of_ble_eq_true rfl) d_p15m31_102 ⟨by decide, by decide⟩ (fun r70 h71 H locs hp72 w => ?_)
              refine W.widen (k := 0) (n := 0) (by decide) (by decide) ?_
              obtain ⟨e73, rfl⟩ := hp72
              refine pd_mlt (tgt := 111) hx hb d_p15m31_105 (by decide) (fun x hx => by have z := gr_fi_lt (e73.symm.trans hx); omega) (fun q74 => ?_) (fun j75 q74 => ?_)
              · -- none: 111
                rw [q74] at e73
                refine lv_iload_n hx hb d_p15m31_111 rfl (lv_at hl 5 rfl) ?_
                refine pd_zeq (tgt := 166) hx hb d_p15m31_112 (by decide) (by decide) (fun q => absurd q (by decide)) (fun _ => ?_)
                refine lv_iload hx hb d_p15m31_115 (lv_at hl 0 rfl) ?_
                refine lv_aload_n hx hb d_p15m31_117 rfl (lv_at hl 3 rfl) ?_
                refine pd_get X w hy22 rfl 40 (by decide) mT_1179 rfl rfl d_p15m31_118 ?_
                refine pd_isub hx hb d_p15m31_121 (by omega) ?_
                refine lv_bipush (v := nI 8) hx hb d_p15m31_122 (by decide) ?_
                refine pd_jne (tgt := 166) hx hb d_p15m31_124 (by decide) (by omega) (by omega) (fun q77 => ?_) (fun q77 => ?_)
                · -- taken: 166
                  refine lv_iconst (v := nI 0) hx hb d_p15m31_166 (by decide) ?_
                  refine lv_istore (lv' := [(6, .int (nI 0)), (5, .int (nI (eA 1))), (4, .int (nI j69)), (3, .int (nI j63)), (0, .ref y), (1, .int (nI nw)), (2, .int (nI 1))]) hx hb d_p15m31_167 hl (by decide) rfl (fun ls hl => ?_)
                  refine lv_iconst (v := nI 0) hx hb d_p15m31_169 (by decide) ?_
                  refine lv_istore (lv' := [(7, .int (nI 0)), (6, .int (nI 0)), (5, .int (nI (eA 1))), (4, .int (nI j69)), (3, .int (nI j63)), (0, .ref y), (1, .int (nI nw)), (2, .int (nI 1))]) hx hb d_p15m31_170 hl (by decide) rfl (fun ls hl => ?_)
                  exact lp_Mod_addM_172 l G h hMO hL hC hM hW hw2 hbda hism hmk hsv X hmn (8 + 1) 0 false j69 j63 h7 (pd_kx.mono (us := [20, 43, 44, 45, 46, 47, 48, 49]) (k10) (by simp)) (f11) (hn34) (hmem) (hc2) (hmk9) (e67) (e73) (by omega) (by omega) (fun z => by cases z) (fun _ => gm_fin_n1 (by omega) (by omega) (fun z => by omega)) (by omega) _ _ w ls (lv_sub hl [0, 1, 2, 3, 4, 5, 6, 7] rfl)
                · -- not taken: 127
                  refine lv_aload_n hx hb d_p15m31_127 rfl (lv_at hl 3 rfl) ?_
                  refine pd_get X w hy22 rfl 2 (by decide) mT_1141 rfl rfl d_p15m31_128 ?_
                  refine lv_iconst (v := nI 2) hx hb d_p15m31_131 (by decide) ?_
                  refine pd_iald X w ha25 (by omega) (by omega) d_p15m31_132 ?_
                  refine pd_top (v' := .int (nI (eA 2))) (congrArg Value.int (hW.2 2 (by omega)).2.1) ?_
                  refine lv_aload_n hx hb d_p15m31_133 rfl (lv_at hl 3 rfl) ?_
                  refine pd_get X w hy22 rfl 1 (by decide) mT_1140 rfl rfl d_p15m31_134 ?_
                  refine lv_iconst (v := nI 2) hx hb d_p15m31_137 (by decide) ?_
                  refine pd_iald X w ha24 (by omega) (by omega) d_p15m31_138 ?_
                  refine pd_top (v' := .int (nI (sA 2))) (congrArg Value.int (hW.2 2 (by omega)).1) ?_
                  refine pd_isub hx hb d_p15m31_139 (by omega) ?_
                  refine lv_iconst (v := nI 3) hx hb d_p15m31_140 (by decide) ?_
                  refine pd_jne (tgt := 166) hx hb d_p15m31_141 (by decide) (by omega) (by omega) (fun q78 => ?_) (fun q78 => ?_)
                  · -- taken: 166
                    refine lv_iconst (v := nI 0) hx hb d_p15m31_166 (by decide) ?_
                    refine lv_istore (lv' := [(6, .int (nI 0)), (5, .int (nI (eA 1))), (4, .int (nI j69)), (3, .int (nI j63)), (0, .ref y), (1, .int (nI nw)), (2, .int (nI 1))]) hx hb d_p15m31_167 hl (by decide) rfl (fun ls hl => ?_)
                    refine lv_iconst (v := nI 0) hx hb d_p15m31_169 (by decide) ?_
                    refine lv_istore (lv' := [(7, .int (nI 0)), (6, .int (nI 0)), (5, .int (nI (eA 1))), (4, .int (nI j69)), (3, .int (nI j63)), (0, .ref y), (1, .int (nI nw)), (2, .int (nI 1))]) hx hb d_p15m31_170 hl (by decide) rfl (fun ls hl => ?_)
                    exact lp_Mod_addM_172 l G h hMO hL hC hM hW hw2 hbda hism hmk hsv X hmn (8 + 1) 0 false j69 j63 h7 (pd_kx.mono (us := [20, 43, 44, 45, 46, 47, 48, 49]) (k10) (by simp)) (f11) (hn34) (hmem) (hc2) (hmk9) (e67) (e73) (by omega) (by omega) (fun z => by cases z) (fun _ => gm_fin_n1 (by omega) (by omega) (fun z => by omega)) (by omega) _ _ w ls (lv_sub hl [0, 1, 2, 3, 4, 5, 6, 7] rfl)
                  · -- not taken: 144
                    refine lv_aload_n hx hb d_p15m31_144 rfl (lv_at hl 3 rfl) ?_
                    refine pd_get X w hy22 rfl 0 (by decide) mT_1139 rfl rfl d_p15m31_145 ?_
                    refine lv_aload_n hx hb d_p15m31_148 rfl (lv_at hl 3 rfl) ?_
                    refine pd_get X w hy22 rfl 2 (by decide) mT_1141 rfl rfl d_p15m31_149 ?_
                    refine lv_iconst (v := nI 2) hx hb d_p15m31_152 (by decide) ?_
                    refine pd_iald X w ha25 (by omega) (by omega) d_p15m31_153 ?_
                    refine pd_top (v' := .int (nI (eA 2))) (congrArg Value.int (hW.2 2 (by omega)).2.1) ?_
                    refine lv_iconst (v := nI 1) hx hb d_p15m31_154 (by decide) ?_
                    refine pd_isub hx hb d_p15m31_155 (by omega) ?_
                    refine pd_iald X w ha23 (by omega) (by omega) d_p15m31_156 ?_
                    refine pd_top (v' := .int (nI (cs.getD ((eA 2) - 1) 0))) (congrArg Value.int (hln _ (by omega))) ?_
                    have := tx_lt hlc ((eA 2) - 1)
                    refine lv_bipush (v := nI 86) hx hb d_p15m31_157 (by decide) ?_
                    refine pd_jne (tgt := 166) hx hb d_p15m31_159 (by decide) (by omega) (by omega) (fun q79 => ?_) (fun q79 => ?_)
                    · -- taken: 166
                      refine lv_iconst (v := nI 0) hx hb d_p15m31_166 (by decide) ?_
                      refine lv_istore (lv' := [(6, .int (nI 0)), (5, .int (nI (eA 1))), (4, .int (nI j69)), (3, .int (nI j63)), (0, .ref y), (1, .int (nI nw)), (2, .int (nI 1))]) hx hb d_p15m31_167 hl (by decide) rfl (fun ls hl => ?_)
                      refine lv_iconst (v := nI 0) hx hb d_p15m31_169 (by decide) ?_
                      refine lv_istore (lv' := [(7, .int (nI 0)), (6, .int (nI 0)), (5, .int (nI (eA 1))), (4, .int (nI j69)), (3, .int (nI j63)), (0, .ref y), (1, .int (nI nw)), (2, .int (nI 1))]) hx hb d_p15m31_170 hl (by decide) rfl (fun ls hl => ?_)
                      exact lp_Mod_addM_172 l G h hMO hL hC hM hW hw2 hbda hism hmk hsv X hmn (8 + 1) 0 false j69 j63 h7 (pd_kx.mono (us := [20, 43, 44, 45, 46, 47, 48, 49]) (k10) (by simp)) (f11) (hn34) (hmem) (hc2) (hmk9) (e67) (e73) (by omega) (by omega) (fun z => by cases z) (fun _ => gm_fin_n1 (by omega) (by omega) (fun z => by omega)) (by omega) _ _ w ls (lv_sub hl [0, 1, 2, 3, 4, 5, 6, 7] rfl)
                    · -- not taken: 162
                      refine lv_iconst (v := nI 1) hx hb d_p15m31_162 (by decide) ?_
                      refine lv_goto (tgt := 167) hx hb d_p15m31_163 (by decide) ?_
                      refine lv_istore (lv' := [(6, .int (nI 1)), (5, .int (nI (eA 1))), (4, .int (nI j69)), (3, .int (nI j63)), (0, .ref y), (1, .int (nI nw)), (2, .int (nI 1))]) hx hb d_p15m31_167 hl (by decide) rfl (fun ls hl => ?_)
                      refine lv_iconst (v := nI 0) hx hb d_p15m31_169 (by decide) ?_
                      refine lv_istore (lv' := [(7, .int (nI 0)), (6, .int (nI 1)), (5, .int (nI (eA 1))), (4, .int (nI j69)), (3, .int (nI j63)), (0, .ref y), (1, .int (nI nw)), (2, .int (nI 1))]) hx hb d_p15m31_170 hl (by decide) rfl (fun ls hl => ?_)
                      exact lp_Mod_addM_172 l G h hMO hL hC hM hW hw2 hbda hism hmk hsv X hmn (8 + 1) 0 true j69 j63 h7 (pd_kx.mono (us := [20, 43, 44, 45, 46, 47, 48, 49]) (k10) (by simp)) (f11) (hn34) (hmem) (hc2) (hmk9) (e67) (e73) (by omega) (by omega) (fun _ => ⟨by omega, by rw [hw2]; exact hsv hc2 (by omega) q79, fun t ht => absurd ht (Nat.not_lt_zero t)⟩) (fun z => by cases z) (by omega) _ _ w ls (lv_sub hl [0, 1, 2, 3, 4, 5, 6, 7] rfl)
              · -- some: 108
                rw [q74] at e73
                have j75lt := gr_fi_lt e73.symm
                refine lv_bipush (v := -3) hx hb d_p15m31_108 (by decide) ?_
                have hg : gr_dm n R k M cs = (-3, k, M) := by unfold gr_dm; simp only [← (hbda hmem).1, ← (hbda hmem).2, ← hw2, e67.symm, e73.symm]
                exact pd_iret (v := (-3)) X w (Or.inr ⟨⟨hn34, hmem, hc2, by rw [hmk9]; simp⟩, by rw [hg], pd_kx.mono (us := [20, 43, 44, 45, 46, 47, 48, 49]) (k10) (by simp), _, _, f11, ⟨fun _ _ => rfl, fun j hj => by simp at hj; simp [pd_fu, hj]⟩, (by rw [hg]; exact hM)⟩) (by decide) (by decide) d_p15m31_110
      · -- not taken: 29
        refine lv_goto (tgt := 40) hx hb d_p15m31_29 (by decide) ?_
        refine lv_iconst (v := -1) hx hb d_p15m31_40 (by decide) ?_
        exact pd_iret (v := (-1)) X w (Or.inl ⟨(fun z => by have z1 := z.2.2.1; rw [← e38, q39] at z1; cases z1), rfl, pd_kx.mono (us := [20, 43, 44, 45, 46, 47, 48, 49]) (k10) (by simp), _, _, f11, ⟨fun _ _ => rfl, fun j hj => by simp at hj; simp [pd_fu, hj]⟩, hM⟩) (by decide) (by decide) d_p15m31_41
