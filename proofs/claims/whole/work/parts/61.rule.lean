/-! the reference takes a rule -/
/-- all slots but these stay -/
def gm_fr (A B : List Nat) (fv : Nat → Nat → Int32) (iv : Nat → Int32) (fv2 : Nat → Nat → Int32) (iv2 : Nat → Int32) : Prop := (∀ j, j ∉ A → fv2 j = fv j) ∧ ∀ j, j ∉ B → iv2 j = iv j
theorem gm_U_add {fv fv2 : Nat → Nat → Int32} {iv iv2 : Nat → Int32} {u : Nat} {U : Nat → pd_rr} {row : pd_rr} {v27 : Int32} (hU : gm_U fv iv u U) (hu : u < 24) (hi : iv2 29 = nI (u + 1)) (hv : 4 ≤ row.1 ∧ row.1 ≤ 7) (e21 : fv2 21 = upd (fv 21) u (nI (row.1 - 4))) (e22 : fv2 22 = upd (fv 22) u (nI (3 - gr_rch row.2.1))) (e24 : fv2 24 = upd (fv 24) u (nI (gr_pn row.2.1).length)) (hl : (gr_pn row.2.1).length ≤ 24) (hc : ∀ x ∈ gr_pn row.2.1, x < 256) (h23 : ∀ i, i < (gr_pn row.2.1).length → fv2 23 (24 * u + i) = nI ((gr_pn row.2.1).getD i 0)) (k23 : ∀ x, x < 24 * u → fv2 23 x = fv 23 x) (e25 : fv2 25 = upd (fv 25) u (nI (gr_bh row.2.1))) (e27 : fv2 27 = upd (fv 27) u v27) (k26 : ∀ x, x < 60 * u → fv2 26 x = fv 26 x) (h2 : gr_bh row.2.1 = 2 → v27 = nI (gr_ad row.2.1).length ∧ (gr_ad row.2.1).length ≤ 60 ∧ (∀ i, i < (gr_ad row.2.1).length → fv2 26 (60 * u + i) = nI ((gr_ad row.2.1).getD i 0)) ∧ ∀ x ∈ gr_ad row.2.1, x < 256) (e28 : fv2 28 = upd (fv 28) u (nI (gm_rn row))) (hr : gm_rn row < 1000) : gm_U fv2 iv2 (u + 1) (pd_fu U u row) := by
  obtain ⟨_, hu24, hUu⟩ := hU
  refine ⟨hi, by omega, fun j hj => ?_⟩
  rw [e21, e22, e24, e25, e27, e28]
  by_cases e : j = u
  · subst e
    rw [pd_fu_s, pk_us, pk_us, pk_us, pk_us, pk_us, pk_us]
    exact ⟨rfl, hv, rfl, rfl, hl, h23, hc, rfl, h2, rfl, hr⟩
  · obtain ⟨r1, r2, r3, r4, r5, r6, r7, r8, r9, r10, r11⟩ := hUu j (by omega)
    rw [pd_fu_n e, pk_un e, pk_un e, pk_un e, pk_un e, pk_un e, pk_un e]
    refine ⟨r1, r2, r3, r4, r5, fun i hi => ?_, r7, r8, fun h => ?_, r10, r11⟩
    · rw [k23 _ (by omega)]
      exact r6 i hi
    · obtain ⟨q1, q2, q3, q4⟩ := r9 h
      exact ⟨q1, q2, fun i hi => by rw [k26 _ (by omega)]; exact q3 i hi, q4⟩
theorem d_p15m33_0 : decode prog_15_method_33_code 0 = .ok (.aload_n 0, 1) := by decide +kernel
theorem d_p15m33_1 : decode prog_15_method_33_code 1 = .ok (.iconst 1, 1) := by decide +kernel
theorem d_p15m33_2 : decode prog_15_method_33_code 2 = .ok (.invokevirtual 253, 3) := by decide +kernel
theorem d_p15m33_5 : decode prog_15_method_33_code 5 = .ok (.ifCond .eq 7, 3) := by decide +kernel
theorem d_p15m33_8 : decode prog_15_method_33_code 8 = .ok (.iload_n 2, 1) := by decide +kernel
theorem d_p15m33_9 : decode prog_15_method_33_code 9 = .ok (.ifCond .ge 5, 3) := by decide +kernel
theorem d_p15m33_12 : decode prog_15_method_33_code 12 = .ok (.iconst (-1), 1) := by decide +kernel
theorem d_p15m33_13 : decode prog_15_method_33_code 13 = .ok (.ireturn, 1) := by decide +kernel
theorem d_p15m33_14 : decode prog_15_method_33_code 14 = .ok (.aload_n 0, 1) := by decide +kernel
theorem d_p15m33_15 : decode prog_15_method_33_code 15 = .ok (.getfield 256, 3) := by decide +kernel
theorem d_p15m33_18 : decode prog_15_method_33_code 18 = .ok (.bipush 24, 2) := by decide +kernel
theorem d_p15m33_20 : decode prog_15_method_33_code 20 = .ok (.if_icmp .ne 6, 3) := by decide +kernel
theorem d_p15m33_23 : decode prog_15_method_33_code 23 = .ok (.bipush (-5), 2) := by decide +kernel
theorem d_p15m33_25 : decode prog_15_method_33_code 25 = .ok (.ireturn, 1) := by decide +kernel
theorem d_p15m33_26 : decode prog_15_method_33_code 26 = .ok (.aload_n 0, 1) := by decide +kernel
theorem d_p15m33_27 : decode prog_15_method_33_code 27 = .ok (.getfield 256, 3) := by decide +kernel
theorem d_p15m33_30 : decode prog_15_method_33_code 30 = .ok (.istore_n 3, 1) := by decide +kernel
theorem d_p15m33_31 : decode prog_15_method_33_code 31 = .ok (.aload_n 0, 1) := by decide +kernel
theorem d_p15m33_32 : decode prog_15_method_33_code 32 = .ok (.getfield 63, 3) := by decide +kernel
theorem d_p15m33_35 : decode prog_15_method_33_code 35 = .ok (.iload_n 3, 1) := by decide +kernel
theorem d_p15m33_36 : decode prog_15_method_33_code 36 = .ok (.iload_n 1, 1) := by decide +kernel
theorem d_p15m33_37 : decode prog_15_method_33_code 37 = .ok (.iastore, 1) := by decide +kernel
theorem d_p15m33_38 : decode prog_15_method_33_code 38 = .ok (.aload_n 0, 1) := by decide +kernel
theorem d_p15m33_39 : decode prog_15_method_33_code 39 = .ok (.getfield 84, 3) := by decide +kernel
theorem d_p15m33_42 : decode prog_15_method_33_code 42 = .ok (.iload_n 3, 1) := by decide +kernel
theorem d_p15m33_43 : decode prog_15_method_33_code 43 = .ok (.iload_n 2, 1) := by decide +kernel
theorem d_p15m33_44 : decode prog_15_method_33_code 44 = .ok (.iastore, 1) := by decide +kernel
theorem d_p15m33_45 : decode prog_15_method_33_code 45 = .ok (.aload_n 0, 1) := by decide +kernel
theorem d_p15m33_46 : decode prog_15_method_33_code 46 = .ok (.getfield 66, 3) := by decide +kernel
theorem d_p15m33_49 : decode prog_15_method_33_code 49 = .ok (.iload_n 3, 1) := by decide +kernel
theorem d_p15m33_50 : decode prog_15_method_33_code 50 = .ok (.aload_n 0, 1) := by decide +kernel
theorem d_p15m33_51 : decode prog_15_method_33_code 51 = .ok (.getfield 139, 3) := by decide +kernel
theorem d_p15m33_54 : decode prog_15_method_33_code 54 = .ok (.iastore, 1) := by decide +kernel
theorem d_p15m33_55 : decode prog_15_method_33_code 55 = .ok (.aload_n 0, 1) := by decide +kernel
theorem d_p15m33_56 : decode prog_15_method_33_code 56 = .ok (.getfield 72, 3) := by decide +kernel
theorem d_p15m33_59 : decode prog_15_method_33_code 59 = .ok (.iload_n 3, 1) := by decide +kernel
theorem d_p15m33_60 : decode prog_15_method_33_code 60 = .ok (.aload_n 0, 1) := by decide +kernel
theorem d_p15m33_61 : decode prog_15_method_33_code 61 = .ok (.getfield 130, 3) := by decide +kernel
theorem d_p15m33_64 : decode prog_15_method_33_code 64 = .ok (.aload_n 0, 1) := by decide +kernel
theorem d_p15m33_65 : decode prog_15_method_33_code 65 = .ok (.getfield 13, 3) := by decide +kernel
theorem d_p15m33_68 : decode prog_15_method_33_code 68 = .ok (.iconst 1, 1) := by decide +kernel
theorem d_p15m33_69 : decode prog_15_method_33_code 69 = .ok (.iaload, 1) := by decide +kernel
theorem d_p15m33_70 : decode prog_15_method_33_code 70 = .ok (.isub, 1) := by decide +kernel
theorem d_p15m33_71 : decode prog_15_method_33_code 71 = .ok (.iastore, 1) := by decide +kernel
theorem d_p15m33_72 : decode prog_15_method_33_code 72 = .ok (.iconst 0, 1) := by decide +kernel
theorem d_p15m33_73 : decode prog_15_method_33_code 73 = .ok (.istore 4, 2) := by decide +kernel
theorem d_p15m33_75 : decode prog_15_method_33_code 75 = .ok (.iload 4, 2) := by decide +kernel
theorem d_p15m33_77 : decode prog_15_method_33_code 77 = .ok (.aload_n 0, 1) := by decide +kernel
theorem d_p15m33_78 : decode prog_15_method_33_code 78 = .ok (.getfield 72, 3) := by decide +kernel
theorem d_p15m33_81 : decode prog_15_method_33_code 81 = .ok (.iload_n 3, 1) := by decide +kernel
theorem d_p15m33_82 : decode prog_15_method_33_code 82 = .ok (.iaload, 1) := by decide +kernel
theorem d_p15m33_83 : decode prog_15_method_33_code 83 = .ok (.if_icmp .ge 35, 3) := by decide +kernel
theorem d_p15m33_86 : decode prog_15_method_33_code 86 = .ok (.aload_n 0, 1) := by decide +kernel
theorem d_p15m33_87 : decode prog_15_method_33_code 87 = .ok (.getfield 69, 3) := by decide +kernel
theorem d_p15m33_90 : decode prog_15_method_33_code 90 = .ok (.bipush 24, 2) := by decide +kernel
theorem d_p15m33_92 : decode prog_15_method_33_code 92 = .ok (.iload_n 3, 1) := by decide +kernel
theorem d_p15m33_93 : decode prog_15_method_33_code 93 = .ok (.imul, 1) := by decide +kernel
theorem d_p15m33_94 : decode prog_15_method_33_code 94 = .ok (.iload 4, 2) := by decide +kernel
theorem d_p15m33_96 : decode prog_15_method_33_code 96 = .ok (.iadd, 1) := by decide +kernel
theorem d_p15m33_97 : decode prog_15_method_33_code 97 = .ok (.aload_n 0, 1) := by decide +kernel
theorem d_p15m33_98 : decode prog_15_method_33_code 98 = .ok (.getfield 7, 3) := by decide +kernel
theorem d_p15m33_101 : decode prog_15_method_33_code 101 = .ok (.aload_n 0, 1) := by decide +kernel
theorem d_p15m33_102 : decode prog_15_method_33_code 102 = .ok (.getfield 13, 3) := by decide +kernel
theorem d_p15m33_105 : decode prog_15_method_33_code 105 = .ok (.iconst 1, 1) := by decide +kernel
theorem d_p15m33_106 : decode prog_15_method_33_code 106 = .ok (.iaload, 1) := by decide +kernel
theorem d_p15m33_107 : decode prog_15_method_33_code 107 = .ok (.iload 4, 2) := by decide +kernel
theorem d_p15m33_109 : decode prog_15_method_33_code 109 = .ok (.iadd, 1) := by decide +kernel
theorem d_p15m33_110 : decode prog_15_method_33_code 110 = .ok (.iaload, 1) := by decide +kernel
theorem d_p15m33_111 : decode prog_15_method_33_code 111 = .ok (.iastore, 1) := by decide +kernel
theorem d_p15m33_112 : decode prog_15_method_33_code 112 = .ok (.iinc 4 1, 3) := by decide +kernel
theorem d_p15m33_115 : decode prog_15_method_33_code 115 = .ok (.goto (-40), 3) := by decide +kernel
theorem d_p15m33_118 : decode prog_15_method_33_code 118 = .ok (.aload_n 0, 1) := by decide +kernel
theorem d_p15m33_119 : decode prog_15_method_33_code 119 = .ok (.getfield 75, 3) := by decide +kernel
theorem d_p15m33_122 : decode prog_15_method_33_code 122 = .ok (.iload_n 3, 1) := by decide +kernel
theorem d_p15m33_123 : decode prog_15_method_33_code 123 = .ok (.aload_n 0, 1) := by decide +kernel
theorem d_p15m33_124 : decode prog_15_method_33_code 124 = .ok (.getfield 142, 3) := by decide +kernel
theorem d_p15m33_127 : decode prog_15_method_33_code 127 = .ok (.iastore, 1) := by decide +kernel
theorem d_p15m33_128 : decode prog_15_method_33_code 128 = .ok (.aload_n 0, 1) := by decide +kernel
theorem d_p15m33_129 : decode prog_15_method_33_code 129 = .ok (.getfield 81, 3) := by decide +kernel
theorem d_p15m33_132 : decode prog_15_method_33_code 132 = .ok (.iload_n 3, 1) := by decide +kernel
theorem d_p15m33_133 : decode prog_15_method_33_code 133 = .ok (.aload_n 0, 1) := by decide +kernel
theorem d_p15m33_134 : decode prog_15_method_33_code 134 = .ok (.getfield 16, 3) := by decide +kernel
theorem d_p15m33_137 : decode prog_15_method_33_code 137 = .ok (.iconst 1, 1) := by decide +kernel
theorem d_p15m33_138 : decode prog_15_method_33_code 138 = .ok (.iaload, 1) := by decide +kernel
theorem d_p15m33_139 : decode prog_15_method_33_code 139 = .ok (.aload_n 0, 1) := by decide +kernel
theorem d_p15m33_140 : decode prog_15_method_33_code 140 = .ok (.getfield 133, 3) := by decide +kernel
theorem d_p15m33_143 : decode prog_15_method_33_code 143 = .ok (.isub, 1) := by decide +kernel
theorem d_p15m33_144 : decode prog_15_method_33_code 144 = .ok (.iastore, 1) := by decide +kernel
theorem d_p15m33_145 : decode prog_15_method_33_code 145 = .ok (.iconst 0, 1) := by decide +kernel
theorem d_p15m33_146 : decode prog_15_method_33_code 146 = .ok (.istore 4, 2) := by decide +kernel
theorem d_p15m33_148 : decode prog_15_method_33_code 148 = .ok (.iload 4, 2) := by decide +kernel
theorem d_p15m33_150 : decode prog_15_method_33_code 150 = .ok (.aload_n 0, 1) := by decide +kernel
theorem d_p15m33_151 : decode prog_15_method_33_code 151 = .ok (.getfield 81, 3) := by decide +kernel
theorem d_p15m33_154 : decode prog_15_method_33_code 154 = .ok (.iload_n 3, 1) := by decide +kernel
theorem d_p15m33_155 : decode prog_15_method_33_code 155 = .ok (.iaload, 1) := by decide +kernel
theorem d_p15m33_156 : decode prog_15_method_33_code 156 = .ok (.if_icmp .ge 33, 3) := by decide +kernel
theorem d_p15m33_159 : decode prog_15_method_33_code 159 = .ok (.aload_n 0, 1) := by decide +kernel
theorem d_p15m33_160 : decode prog_15_method_33_code 160 = .ok (.getfield 78, 3) := by decide +kernel
theorem d_p15m33_163 : decode prog_15_method_33_code 163 = .ok (.bipush 60, 2) := by decide +kernel
theorem d_p15m33_165 : decode prog_15_method_33_code 165 = .ok (.iload_n 3, 1) := by decide +kernel
theorem d_p15m33_166 : decode prog_15_method_33_code 166 = .ok (.imul, 1) := by decide +kernel
theorem d_p15m33_167 : decode prog_15_method_33_code 167 = .ok (.iload 4, 2) := by decide +kernel
theorem d_p15m33_169 : decode prog_15_method_33_code 169 = .ok (.iadd, 1) := by decide +kernel
theorem d_p15m33_170 : decode prog_15_method_33_code 170 = .ok (.aload_n 0, 1) := by decide +kernel
theorem d_p15m33_171 : decode prog_15_method_33_code 171 = .ok (.getfield 7, 3) := by decide +kernel
theorem d_p15m33_174 : decode prog_15_method_33_code 174 = .ok (.aload_n 0, 1) := by decide +kernel
theorem d_p15m33_175 : decode prog_15_method_33_code 175 = .ok (.getfield 133, 3) := by decide +kernel
theorem d_p15m33_178 : decode prog_15_method_33_code 178 = .ok (.iload 4, 2) := by decide +kernel
theorem d_p15m33_180 : decode prog_15_method_33_code 180 = .ok (.iadd, 1) := by decide +kernel
theorem d_p15m33_181 : decode prog_15_method_33_code 181 = .ok (.iaload, 1) := by decide +kernel
theorem d_p15m33_182 : decode prog_15_method_33_code 182 = .ok (.iastore, 1) := by decide +kernel
theorem d_p15m33_183 : decode prog_15_method_33_code 183 = .ok (.iinc 4 1, 3) := by decide +kernel
theorem d_p15m33_186 : decode prog_15_method_33_code 186 = .ok (.goto (-38), 3) := by decide +kernel
theorem d_p15m33_189 : decode prog_15_method_33_code 189 = .ok (.aload_n 0, 1) := by decide +kernel
theorem d_p15m33_190 : decode prog_15_method_33_code 190 = .ok (.dup, 1) := by decide +kernel
theorem d_p15m33_191 : decode prog_15_method_33_code 191 = .ok (.getfield 256, 3) := by decide +kernel
theorem d_p15m33_194 : decode prog_15_method_33_code 194 = .ok (.iconst 1, 1) := by decide +kernel
theorem d_p15m33_195 : decode prog_15_method_33_code 195 = .ok (.iadd, 1) := by decide +kernel
theorem d_p15m33_196 : decode prog_15_method_33_code 196 = .ok (.putfield 256, 3) := by decide +kernel
theorem d_p15m33_199 : decode prog_15_method_33_code 199 = .ok (.iload_n 3, 1) := by decide +kernel
theorem d_p15m33_200 : decode prog_15_method_33_code 200 = .ok (.ireturn, 1) := by decide +kernel
abbrev y_Mod_rule : MethodName := ⟨"PolicyDeskModel", "rule", "(II)I"⟩
theorem ok_Mod_rule : pd_ok y_Mod_rule prog_15_method_33_code 5 (some .int) 2 := ⟨mT_1372, mT_21, by decide, by decide +kernel⟩
abbrev rm_Mod_rule : Room := { frames := 5, cells := 0, slots := 0, locals := 111 }
set_option maxHeartbeats 4000000 in
set_option maxRecDepth 100000 in
theorem lp_Mod_rule_148 (l : Launch) (G : pd_G) (h : pd_H) {y : Nat} {ad : Nat → Nat} {fv : Nat → Nat → Int32} {iv : Nat → Int32} {tl : Int64} {cs : List Nat} {u : Nat} {U : Nat → pd_rr} {nw w9 : Nat} {sA eA : Nat → Nat} {o : Option Nat} {rf : Nat → pd_rr} (hMO : pd_MO G h y ad fv iv tl) (hL : gm_L fv iv cs) (hU : gm_U fv iv u U) (hW : gm_W fv cs nw sA eA) (hnw : 2 ≤ nw) (hw9 : w9 ≤ 3) (ho : ∀ t, o = some t → t < 1000) (hrf : ∀ x, (rf x).1 = w9 + 4 ∧ (rf x).2.1 = gr_w cs 1 ∧ gm_rn (rf x) = x) (hpt : ∀ t, gm_pat cs (sA 1) (eA 1) = some t → (t.1 = 3 - gr_rch (gr_w cs 1) ∧ t.2.2.1 = gr_bh (gr_w cs 1)) ∧ tx_sub cs (sA 1) t.2.1 = gr_pn (gr_w cs 1) ∧ (gr_bh (gr_w cs 1) = 2 → tx_sub cs t.2.2.2 (eA 1) = gr_ad (gr_w cs 1)) ∧ sA 1 ≤ t.2.1 ∧ t.2.1 ≤ eA 1 ∧ t.2.1 - sA 1 ≤ 24 ∧ t.2.2.2 ≤ eA 1) {p : Program} {e : Env} {s : State} {m : MethodId} {below : List Frame} {meth : Method} {c : Code} (X : pd_B p s m [.ref y, .int (nI w9), .int (pd_m o)].toArray meth c G y_Mod_rule.cls prog_15_method_33_code 5 (some .int)) (hmn : meth.name = y_Mod_rule.name) :
    ∀ (kk9 : Nat) (i : Nat) (t9 : Nat × Nat × Nat × Nat) (x9 : Nat) (fo3 : Nat → Int32) (fo6 : Nat → Int32) (hh : pd_H), (pd_kx [20, 51, 52, 53, 54, 55, 56, 57, 58] h hh) → (pd_MO G hh y ad (pd_fu (pd_fu (pd_fu (pd_fu (pd_fu (pd_fu (pd_fu (pd_fu fv 21 (upd (fv 21) u (nI w9))) 22 (upd (fv 22) u (nI t9.1))) 23 fo3) 24 (upd (fv 24) u (nI (t9.2.1 - (sA 1))))) 25 (upd (fv 25) u (nI t9.2.2.1))) 26 fo6) 27 (upd (fv 27) u (nI ((eA 1) - t9.2.2.2)))) 28 (upd (fv 28) u (nI x9))) (pd_fu (pd_fu (pd_fu (pd_fu iv 37 (nI t9.1)) 38 (nI t9.2.1)) 39 (nI t9.2.2.1)) 40 (nI t9.2.2.2)) tl) → (gm_pat cs (sA 1) (eA 1) = some t9) → (o = some x9) → (u < 24) → (i ≤ 60) → (∀ j, j < t9.2.1 - sA 1 → fo3 (24 * u + j) = nI (cs.getD (sA 1 + j) 0)) → (∀ x, x < 24 * u → fo3 x = fv 23 x) → (∀ j, j < i → fo6 (60 * u + j) = nI (cs.getD (t9.2.2.2 + j) 0)) → (∀ x, x < 60 * u → fo6 x = fv 26 x) → (i ≤ eA 1 - t9.2.2.2) → 100 - i < kk9 → ∀ (H : Heap) (locs : List Loc), pd_w G s H locs hh → ∀ ls : Array Slot, lv_has ls 5 [(4, .int (nI i)), (3, .int (nI u)), (0, .ref y), (1, .int (nI w9)), (2, .int (nI x9))] → W p l e rm_Mod_rule s m [.ref y, .int (nI w9), .int (pd_m o)].toArray below meth c H locs 0 0 (MQ below (pd_Q G Value.int (fun r h1 => (¬ ((gm_pat cs (sA 1) (eA 1)).isSome = true ∧ ¬ o = none) ∧ r = -1 ∧ pd_kx [20, 51, 52, 53, 54, 55, 56, 57, 58] h h1 ∧ ∃ a b c9 d, pd_MO G h1 y ad fv (pd_fu (pd_fu (pd_fu (pd_fu iv 37 a) 38 b) 39 c9) 40 d) tl) ∨ (((gm_pat cs (sA 1) (eA 1)).isSome = true ∧ ¬ o = none) ∧ ∀ x, o = some x → r = (gr_radd u U (rf x)).1 ∧ pd_kx [20, 51, 52, 53, 54, 55, 56, 57, 58] h h1 ∧ ∃ fv2 iv2, pd_MO G h1 y ad fv2 iv2 tl ∧ gm_U fv2 iv2 (gr_radd u U (rf x)).2.1 (gr_radd u U (rf x)).2.2 ∧ gm_fr [21, 22, 23, 24, 25, 26, 27, 28] [29, 37, 38, 39, 40] fv iv fv2 iv2))) [.ref y, .int (nI w9), .int (pd_m o)].toArray s rm_Mod_rule.cells rm_Mod_rule.slots (fun q => G.2.1 ≤ q)) (F0 m 148 ls []) := by
  have hx := X.1
  have hb := X.2.1
  have hz_y := hMO.2.1
  have hy0 : h y = some (20, .inr (10, [.ref (ad 0), .ref (ad 1), .ref (ad 2), .int (iv 3), .int (iv 4), .int (iv 5), .ref (ad 6), .ref (ad 7), .ref (ad 8), .ref (ad 9), .ref (ad 10), .ref (ad 11), .int (iv 12), .ref (ad 13), .ref (ad 14), .ref (ad 15), .ref (ad 16), .ref (ad 17), .ref (ad 18), .ref (ad 19), .int (iv 20), .ref (ad 21), .ref (ad 22), .ref (ad 23), .ref (ad 24), .ref (ad 25), .ref (ad 26), .ref (ad 27), .ref (ad 28), .int (iv 29), .ref (ad 30), .ref (ad 31), .int (iv 32), .int (iv 33), .int (iv 34), .int (iv 35), .long tl, .int (iv 37), .int (iv 38), .int (iv 39), .int (iv 40), .ref (ad 41), .ref (ad 42), .int (iv 43)])) := hMO.1
  have ha0 : h (ad 0) = some (30, .inl (.int, 60, .inl (fv 0))) := (hMO.2.2 0 (by decide)).1
  have ha1 : h (ad 1) = some (31, .inl (.int, 40, .inl (fv 1))) := (hMO.2.2 1 (by decide)).1
  have ha2 : h (ad 2) = some (32, .inl (.int, 40, .inl (fv 2))) := (hMO.2.2 2 (by decide)).1
  have ha21 : h (ad 21) = some (51, .inl (.int, 24, .inl (fv 21))) := (hMO.2.2 21 (by decide)).1
  have ha22 : h (ad 22) = some (52, .inl (.int, 24, .inl (fv 22))) := (hMO.2.2 22 (by decide)).1
  have ha23 : h (ad 23) = some (53, .inl (.int, 576, .inl (fv 23))) := (hMO.2.2 23 (by decide)).1
  have ha24 : h (ad 24) = some (54, .inl (.int, 24, .inl (fv 24))) := (hMO.2.2 24 (by decide)).1
  have ha25 : h (ad 25) = some (55, .inl (.int, 24, .inl (fv 25))) := (hMO.2.2 25 (by decide)).1
  have ha26 : h (ad 26) = some (56, .inl (.int, 1440, .inl (fv 26))) := (hMO.2.2 26 (by decide)).1
  have ha27 : h (ad 27) = some (57, .inl (.int, 24, .inl (fv 27))) := (hMO.2.2 27 (by decide)).1
  have ha28 : h (ad 28) = some (58, .inl (.int, 24, .inl (fv 28))) := (hMO.2.2 28 (by decide)).1
  obtain ⟨hiv3, hln, hl60, hlc⟩ := id hL
  obtain ⟨hiv29, hu24, hUu⟩ := id hU
  have hw31 := hW.1
  have hwl1 := (hW.2 1 (by omega)).2.2
  have hil : ∀ x, o = some x → x < 2 ^ 31 := fun x hx => by have := ho x hx; omega
  intro kk9
  induction kk9 with
  | zero => intros; omega
  | succ kk9 ih =>
    intro i t9 x9 fo3 fo6 hh hk2 hMO2 ht9 hox hu9 hi hf3 hk3 hf6 hk6 hi6 hmu H locs w ls hl
    have hz_y := hMO2.2.1
    have hx9 := ho x9 hox
    have hy2 : hh y = some (20, .inr (10, [.ref (ad 0), .ref (ad 1), .ref (ad 2), .int (iv 3), .int (iv 4), .int (iv 5), .ref (ad 6), .ref (ad 7), .ref (ad 8), .ref (ad 9), .ref (ad 10), .ref (ad 11), .int (iv 12), .ref (ad 13), .ref (ad 14), .ref (ad 15), .ref (ad 16), .ref (ad 17), .ref (ad 18), .ref (ad 19), .int (iv 20), .ref (ad 21), .ref (ad 22), .ref (ad 23), .ref (ad 24), .ref (ad 25), .ref (ad 26), .ref (ad 27), .ref (ad 28), .int (iv 29), .ref (ad 30), .ref (ad 31), .int (iv 32), .int (iv 33), .int (iv 34), .int (iv 35), .long tl, .int (nI t9.1), .int (nI t9.2.1), .int (nI t9.2.2.1), .int (nI t9.2.2.2), .ref (ad 41), .ref (ad 42), .int (iv 43)])) := hMO2.1
    obtain ⟨⟨hp1, hp2⟩, hp3, hp4, hp5, hp6, hp7, hp8⟩ := hpt t9 ht9
    have ha0 : hh (ad 0) = some (30, .inl (.int, 60, .inl (fv 0))) := (hMO2.2.2 0 (by decide)).1
    have ha1 : hh (ad 1) = some (31, .inl (.int, 40, .inl (fv 1))) := (hMO2.2.2 1 (by decide)).1
    have ha2 : hh (ad 2) = some (32, .inl (.int, 40, .inl (fv 2))) := (hMO2.2.2 2 (by decide)).1
    have ha21 : hh (ad 21) = some (51, .inl (.int, 24, .inl (upd (fv 21) u (nI w9)))) := (hMO2.2.2 21 (by decide)).1
    have ha22 : hh (ad 22) = some (52, .inl (.int, 24, .inl (upd (fv 22) u (nI t9.1)))) := (hMO2.2.2 22 (by decide)).1
    have ha23 : hh (ad 23) = some (53, .inl (.int, 576, .inl (fo3))) := (hMO2.2.2 23 (by decide)).1
    have ha24 : hh (ad 24) = some (54, .inl (.int, 24, .inl (upd (fv 24) u (nI (t9.2.1 - (sA 1)))))) := (hMO2.2.2 24 (by decide)).1
    have ha25 : hh (ad 25) = some (55, .inl (.int, 24, .inl (upd (fv 25) u (nI t9.2.2.1)))) := (hMO2.2.2 25 (by decide)).1
    have ha26 : hh (ad 26) = some (56, .inl (.int, 1440, .inl (fo6))) := (hMO2.2.2 26 (by decide)).1
    have ha27 : hh (ad 27) = some (57, .inl (.int, 24, .inl (upd (fv 27) u (nI ((eA 1) - t9.2.2.2))))) := (hMO2.2.2 27 (by decide)).1
    have ha28 : hh (ad 28) = some (58, .inl (.int, 24, .inl (upd (fv 28) u (nI x9)))) := (hMO2.2.2 28 (by decide)).1
    refine lv_iload hx hb d_p15m33_148 (lv_at hl 0 rfl) ?_
    refine lv_aload_n hx hb d_p15m33_150 rfl (lv_at hl 2 rfl) ?_
    refine pd_get X w hy2 rfl 27 (by decide) mT_1166 rfl rfl d_p15m33_151 ?_
    refine lv_iload_n hx hb d_p15m33_154 rfl (lv_at hl 1 rfl) ?_
    refine pd_iald X w ha27 (by omega) (by omega) d_p15m33_155 ?_
    refine pd_top (v' := .int (nI ((eA 1) - t9.2.2.2))) (by rw [pk_us]) ?_
    refine pd_jge (tgt := 189) hx hb d_p15m33_156 (by decide) (by omega) (by omega) (fun q1 => ?_) (fun q1 => ?_)
    · -- taken: 189
      refine lv_aload_n hx hb d_p15m33_189 rfl (lv_at hl 2 rfl) ?_
      refine lv_dup hx hb d_p15m33_190 rfl ?_
      refine pd_get X w hy2 rfl 29 (by decide) mT_1168 rfl rfl d_p15m33_191 ?_
      refine pd_top (v' := .int (nI u)) (congrArg Value.int hiv29) ?_
      refine lv_iconst (v := nI 1) hx hb d_p15m33_194 (by decide) ?_
      refine pd_iadd hx hb d_p15m33_195 ?_
      refine pd_put (ty := .int) X w hy2 hz_y rfl 29 (by decide) mT_1168 rfl rfl (by decide +kernel) rfl rfl (Nat.le_of_ble_eq_true rfl) d_p15m33_196 (fun H locs w => ?_)
      have w : pd_w G s H locs (pd_up hh y (20, .inr (10, [.ref (ad 0), .ref (ad 1), .ref (ad 2), .int (iv 3), .int (iv 4), .int (iv 5), .ref (ad 6), .ref (ad 7), .ref (ad 8), .ref (ad 9), .ref (ad 10), .ref (ad 11), .int (iv 12), .ref (ad 13), .ref (ad 14), .ref (ad 15), .ref (ad 16), .ref (ad 17), .ref (ad 18), .ref (ad 19), .int (iv 20), .ref (ad 21), .ref (ad 22), .ref (ad 23), .ref (ad 24), .ref (ad 25), .ref (ad 26), .ref (ad 27), .ref (ad 28), .int (nI (u + 1)), .ref (ad 30), .ref (ad 31), .int (iv 32), .int (iv 33), .int (iv 34), .int (iv 35), .long tl, .int (nI t9.1), .int (nI t9.2.1), .int (nI t9.2.2.1), .int (nI t9.2.2.2), .ref (ad 41), .ref (ad 42), .int (iv 43)]))) := w
      obtain ⟨h2, u5⟩ : ∃ z, z = pd_up hh y (20, .inr (10, [.ref (ad 0), .ref (ad 1), .ref (ad 2), .int (iv 3), .int (iv 4), .int (iv 5), .ref (ad 6), .ref (ad 7), .ref (ad 8), .ref (ad 9), .ref (ad 10), .ref (ad 11), .int (iv 12), .ref (ad 13), .ref (ad 14), .ref (ad 15), .ref (ad 16), .ref (ad 17), .ref (ad 18), .ref (ad 19), .int (iv 20), .ref (ad 21), .ref (ad 22), .ref (ad 23), .ref (ad 24), .ref (ad 25), .ref (ad 26), .ref (ad 27), .ref (ad 28), .int (nI (u + 1)), .ref (ad 30), .ref (ad 31), .int (iv 32), .int (iv 33), .int (iv 34), .int (iv 35), .long tl, .int (nI t9.1), .int (nI t9.2.1), .int (nI t9.2.2.1), .int (nI t9.2.2.2), .ref (ad 41), .ref (ad 42), .int (iv 43)])) := ⟨_, rfl⟩
      rw [← u5] at w
      have k3 : pd_kq y hh h2 := by rw [u5]; exact pd_up_kq
      have f4 : h2 y = some (20, .inr (10, [.ref (ad 0), .ref (ad 1), .ref (ad 2), .int (iv 3), .int (iv 4), .int (iv 5), .ref (ad 6), .ref (ad 7), .ref (ad 8), .ref (ad 9), .ref (ad 10), .ref (ad 11), .int (iv 12), .ref (ad 13), .ref (ad 14), .ref (ad 15), .ref (ad 16), .ref (ad 17), .ref (ad 18), .ref (ad 19), .int (iv 20), .ref (ad 21), .ref (ad 22), .ref (ad 23), .ref (ad 24), .ref (ad 25), .ref (ad 26), .ref (ad 27), .ref (ad 28), .int (nI (u + 1)), .ref (ad 30), .ref (ad 31), .int (iv 32), .int (iv 33), .int (iv 34), .int (iv 35), .long tl, .int (nI t9.1), .int (nI t9.2.1), .int (nI t9.2.2.1), .int (nI t9.2.2.2), .ref (ad 41), .ref (ad 42), .int (iv 43)])) := by rw [u5]; exact pd_up_s _ _ _
      have f6 := k3 _ _ (pd_ne ha0 hy2 (by simp)) ha0
      have f7 := k3 _ _ (pd_ne ha1 hy2 (by simp)) ha1
      have f8 := k3 _ _ (pd_ne ha2 hy2 (by simp)) ha2
      have f9 := k3 _ _ (pd_ne ha21 hy2 (by simp)) ha21
      have f10 := k3 _ _ (pd_ne ha22 hy2 (by simp)) ha22
      have f11 := k3 _ _ (pd_ne ha23 hy2 (by simp)) ha23
      have f12 := k3 _ _ (pd_ne ha24 hy2 (by simp)) ha24
      have f13 := k3 _ _ (pd_ne ha25 hy2 (by simp)) ha25
      have f14 := k3 _ _ (pd_ne ha26 hy2 (by simp)) ha26
      have f15 := k3 _ _ (pd_ne ha27 hy2 (by simp)) ha27
      have f16 := k3 _ _ (pd_ne ha28 hy2 (by simp)) ha28
      refine lv_iload_n hx hb d_p15m33_199 rfl (lv_at hl 1 rfl) ?_
      have mo17 : pd_MO G h2 y ad (pd_fu (pd_fu (pd_fu (pd_fu (pd_fu (pd_fu (pd_fu (pd_fu fv 21 (upd (fv 21) u (nI w9))) 22 (upd (fv 22) u (nI t9.1))) 23 fo3) 24 (upd (fv 24) u (nI (t9.2.1 - (sA 1))))) 25 (upd (fv 25) u (nI t9.2.2.1))) 26 fo6) 27 (upd (fv 27) u (nI ((eA 1) - t9.2.2.2)))) 28 (upd (fv 28) u (nI x9))) (pd_fu (pd_fu (pd_fu (pd_fu (pd_fu iv 37 (nI t9.1)) 38 (nI t9.2.1)) 39 (nI t9.2.2.1)) 40 (nI t9.2.2.2)) 29 (nI (u + 1))) tl := pd_MO.of (ts := [20]) hMO2 (pd_kq.kx (k3) hy2) f4 (fun j hj => Or.inr ⟨fun z => by first | (simp at z; done) | (simp at z; omega), rfl⟩)
      have hrx := hrf x9
      exact pd_iret (v := (nI u)) X w (Or.inr ⟨⟨by rw [ht9]; rfl, by rw [hox]; simp⟩, fun x hx => by rw [hox] at hx; cases hx; exact ⟨by rw [gr_radd_y hu9], hk2.tr (pd_kx.mono (us := [20, 51, 52, 53, 54, 55, 56, 57, 58]) (pd_kq.kx (k3) hy2) (by simp)), _, _, mo17, (by rw [gr_radd_y hu9]; exact gm_U_add (v27 := nI (eA 1 - t9.2.2.2)) hU hu9 rfl (by omega) (by rw [hrx.1]; rfl) (by rw [hrx.2.1, ← hp1]; rfl) (by rw [hrx.2.1, ← hp3, tx_sub_len (by omega)]; rfl) (by rw [hrx.2.1, ← hp3, tx_sub_len (by omega)]; omega) (by rw [hrx.2.1, ← hp3]; exact tx_sub_lt hlc) (fun j hj => by rw [hrx.2.1, ← hp3, tx_sub_len (by omega)] at hj; rw [hrx.2.1, ← hp3, tx_sub_get hj]; exact hf3 j (by omega)) hk3 (by rw [hrx.2.1, ← hp2]; rfl) rfl hk6 (fun h2 => by rw [hrx.2.1] at h2 ⊢; rw [← hp4 h2, tx_sub_len (by omega)]; exact ⟨rfl, by omega, fun j hj => by rw [tx_sub_get hj]; exact hf6 j (by omega), tx_sub_lt hlc⟩) (by rw [hrx.2.2]; rfl) (by rw [hrx.2.2]; omega)), ⟨fun j hj => by simp at hj; simp [pd_fu, hj], fun j hj => by simp at hj; simp [pd_fu, hj]⟩⟩⟩) (by decide) (by decide) d_p15m33_200
    · -- not taken: 159
      refine lv_aload_n hx hb d_p15m33_159 rfl (lv_at hl 2 rfl) ?_
      refine pd_get X w hy2 rfl 26 (by decide) mT_1165 rfl rfl d_p15m33_160 ?_
      refine lv_bipush (v := nI 60) hx hb d_p15m33_163 (by decide) ?_
      refine lv_iload_n hx hb d_p15m33_165 rfl (lv_at hl 1 rfl) ?_
      refine pd_imul hx hb d_p15m33_166 ?_
      refine lv_iload hx hb d_p15m33_167 (lv_at hl 0 rfl) ?_
      refine pd_iadd hx hb d_p15m33_169 ?_
      refine lv_aload_n hx hb d_p15m33_170 rfl (lv_at hl 2 rfl) ?_
      refine pd_get X w hy2 rfl 0 (by decide) mT_1139 rfl rfl d_p15m33_171 ?_
      refine lv_aload_n hx hb d_p15m33_174 rfl (lv_at hl 2 rfl) ?_
      refine pd_get X w hy2 rfl 40 (by decide) mT_1179 rfl rfl d_p15m33_175 ?_
      refine lv_iload hx hb d_p15m33_178 (lv_at hl 0 rfl) ?_
      refine pd_iadd hx hb d_p15m33_180 ?_
      refine pd_iald X w ha0 (by omega) (by omega) d_p15m33_181 ?_
      refine pd_top (v' := .int (nI (cs.getD (t9.2.2.2 + i) 0))) (congrArg Value.int (hln _ (by omega))) ?_
      have := tx_lt hlc (t9.2.2.2 + i)
      refine pd_iast X w ha26 (hMO.2.2 26 (by decide)).2 (by omega) (by omega) d_p15m33_182 (fun H locs w => ?_)
      have w : pd_w G s H locs (pd_up hh (ad 26) (56, .inl (.int, 1440, .inl (upd fo6 ((60 * u) + i) (nI (cs.getD (t9.2.2.2 + i) 0)))))) := w
      obtain ⟨h18, u21⟩ : ∃ z, z = pd_up hh (ad 26) (56, .inl (.int, 1440, .inl (upd fo6 ((60 * u) + i) (nI (cs.getD (t9.2.2.2 + i) 0))))) := ⟨_, rfl⟩
      rw [← u21] at w
      have k19 : pd_kq (ad 26) hh h18 := by rw [u21]; exact pd_up_kq
      have f20 : h18 (ad 26) = some (56, .inl (.int, 1440, .inl (upd fo6 ((60 * u) + i) (nI (cs.getD (t9.2.2.2 + i) 0))))) := by rw [u21]; exact pd_up_s _ _ _
      have f22 := k19 _ _ (pd_ne hy2 ha26 (by simp)) hy2
      have f23 := k19 _ _ (pd_ne ha0 ha26 (by simp)) ha0
      have f24 := k19 _ _ (pd_ne ha1 ha26 (by simp)) ha1
      have f25 := k19 _ _ (pd_ne ha2 ha26 (by simp)) ha2
      have f26 := k19 _ _ (pd_ne ha21 ha26 (by simp)) ha21
      have f27 := k19 _ _ (pd_ne ha22 ha26 (by simp)) ha22
      have f28 := k19 _ _ (pd_ne ha23 ha26 (by simp)) ha23
      have f29 := k19 _ _ (pd_ne ha24 ha26 (by simp)) ha24
      have f30 := k19 _ _ (pd_ne ha25 ha26 (by simp)) ha25
      have f31 := k19 _ _ (pd_ne ha27 ha26 (by simp)) ha27
      have f32 := k19 _ _ (pd_ne ha28 ha26 (by simp)) ha28
      refine pd_iinc (k := 0) (d := 1) (lv' := [(4, .int (nI (i + 1))), (3, .int (nI u)), (0, .ref y), (1, .int (nI w9)), (2, .int (nI x9))]) hx hb d_p15m33_183 (by decide) hl rfl (by decide) rfl (fun ls hl => ?_)
      refine lv_goto (tgt := 148) hx hb d_p15m33_186 (by decide) ?_
      have mo33 : pd_MO G h18 y ad (pd_fu (pd_fu (pd_fu (pd_fu (pd_fu (pd_fu (pd_fu (pd_fu (pd_fu fv 21 (upd (fv 21) u (nI w9))) 22 (upd (fv 22) u (nI t9.1))) 23 fo3) 24 (upd (fv 24) u (nI (t9.2.1 - (sA 1))))) 25 (upd (fv 25) u (nI t9.2.2.1))) 26 fo6) 27 (upd (fv 27) u (nI ((eA 1) - t9.2.2.2)))) 28 (upd (fv 28) u (nI x9))) 26 (upd fo6 ((60 * u) + i) (nI (cs.getD (t9.2.2.2 + i) 0)))) (pd_fu (pd_fu (pd_fu (pd_fu iv 37 (nI t9.1)) 38 (nI t9.2.1)) 39 (nI t9.2.2.1)) 40 (nI t9.2.2.2)) tl := pd_MO.of (ts := [56]) hMO2 (pd_kq.kx (k19) ha26) f22 (fun j hj => if e26 : j = 26 then by subst e26; exact Or.inl f20 else Or.inr ⟨fun z => by first | (simp at z; done) | (simp at z; omega), by rw [pd_fu_n e26]⟩)
      exact ih (i + 1) t9 x9 fo3 (upd fo6 ((60 * u) + i) (nI (cs.getD (t9.2.2.2 + i) 0))) h18 (hk2.tr (pd_kx.mono (us := [20, 51, 52, 53, 54, 55, 56, 57, 58]) (pd_kq.kx (k19) ha26) (by simp))) ((pd_MO.ext (fv2 := pd_fu (pd_fu (pd_fu (pd_fu (pd_fu (pd_fu (pd_fu (pd_fu fv 21 (upd (fv 21) u (nI w9))) 22 (upd (fv 22) u (nI t9.1))) 23 fo3) 24 (upd (fv 24) u (nI (t9.2.1 - (sA 1))))) 25 (upd (fv 25) u (nI t9.2.2.1))) 26 (upd fo6 ((60 * u) + i) (nI (cs.getD (t9.2.2.2 + i) 0)))) 27 (upd (fv 27) u (nI ((eA 1) - t9.2.2.2)))) 28 (upd (fv 28) u (nI x9))) (iv2 := pd_fu (pd_fu (pd_fu (pd_fu iv 37 (nI t9.1)) 38 (nI t9.2.1)) 39 (nI t9.2.2.1)) 40 (nI t9.2.2.2)) mo33 (fun j9 hj9 => by by_cases e921 : j9 = 21; subst e921; rfl; by_cases e922 : j9 = 22; subst e922; rfl; by_cases e923 : j9 = 23; subst e923; rfl; by_cases e924 : j9 = 24; subst e924; rfl; by_cases e925 : j9 = 25; subst e925; rfl; by_cases e926 : j9 = 26; subst e926; rfl; by_cases e927 : j9 = 27; subst e927; rfl; by_cases e928 : j9 = 28; subst e928; rfl; simp only [pd_fu, if_neg e921, if_neg e922, if_neg e923, if_neg e924, if_neg e925, if_neg e926, if_neg e927, if_neg e928]) rfl)) (ht9) (hox) (by omega) (by omega) (hf3) (hk3) (fun j hj => by by_cases e9 : j = i; subst e9; rw [pk_us]; rw [pk_un (by omega)]; exact hf6 j (by omega)) (fun x hx => by rw [pk_un (by omega)]; exact hk6 x hx) (by omega) (by omega) _ _ w ls (lv_sub hl [0, 1, 2, 3, 4] rfl)
set_option maxHeartbeats 4000000 in
set_option maxRecDepth 100000 in
theorem lp_Mod_rule_75 (l : Launch) (G : pd_G) (h : pd_H) {y : Nat} {ad : Nat → Nat} {fv : Nat → Nat → Int32} {iv : Nat → Int32} {tl : Int64} {cs : List Nat} {u : Nat} {U : Nat → pd_rr} {nw w9 : Nat} {sA eA : Nat → Nat} {o : Option Nat} {rf : Nat → pd_rr} (hMO : pd_MO G h y ad fv iv tl) (hL : gm_L fv iv cs) (hU : gm_U fv iv u U) (hW : gm_W fv cs nw sA eA) (hnw : 2 ≤ nw) (hw9 : w9 ≤ 3) (ho : ∀ t, o = some t → t < 1000) (hrf : ∀ x, (rf x).1 = w9 + 4 ∧ (rf x).2.1 = gr_w cs 1 ∧ gm_rn (rf x) = x) (hpt : ∀ t, gm_pat cs (sA 1) (eA 1) = some t → (t.1 = 3 - gr_rch (gr_w cs 1) ∧ t.2.2.1 = gr_bh (gr_w cs 1)) ∧ tx_sub cs (sA 1) t.2.1 = gr_pn (gr_w cs 1) ∧ (gr_bh (gr_w cs 1) = 2 → tx_sub cs t.2.2.2 (eA 1) = gr_ad (gr_w cs 1)) ∧ sA 1 ≤ t.2.1 ∧ t.2.1 ≤ eA 1 ∧ t.2.1 - sA 1 ≤ 24 ∧ t.2.2.2 ≤ eA 1) {p : Program} {e : Env} {s : State} {m : MethodId} {below : List Frame} {meth : Method} {c : Code} (X : pd_B p s m [.ref y, .int (nI w9), .int (pd_m o)].toArray meth c G y_Mod_rule.cls prog_15_method_33_code 5 (some .int)) (hmn : meth.name = y_Mod_rule.name) :
    ∀ (kk9 : Nat) (i : Nat) (t9 : Nat × Nat × Nat × Nat) (x9 : Nat) (fo3 : Nat → Int32) (hh : pd_H), (pd_kx [20, 51, 52, 53, 54, 55, 56, 57, 58] h hh) → (pd_MO G hh y ad (pd_fu (pd_fu (pd_fu (pd_fu (pd_fu fv 21 (upd (fv 21) u (nI w9))) 22 (upd (fv 22) u (nI t9.1))) 23 fo3) 24 (upd (fv 24) u (nI (t9.2.1 - (sA 1))))) 28 (upd (fv 28) u (nI x9))) (pd_fu (pd_fu (pd_fu (pd_fu iv 37 (nI t9.1)) 38 (nI t9.2.1)) 39 (nI t9.2.2.1)) 40 (nI t9.2.2.2)) tl) → (gm_pat cs (sA 1) (eA 1) = some t9) → (o = some x9) → (u < 24) → (i ≤ 60) → (∀ j, j < i → fo3 (24 * u + j) = nI (cs.getD (sA 1 + j) 0)) → (∀ x, x < 24 * u → fo3 x = fv 23 x) → (i ≤ t9.2.1 - sA 1) → 100 - i < kk9 → ∀ (H : Heap) (locs : List Loc), pd_w G s H locs hh → ∀ ls : Array Slot, lv_has ls 5 [(4, .int (nI i)), (3, .int (nI u)), (0, .ref y), (1, .int (nI w9)), (2, .int (nI x9))] → W p l e rm_Mod_rule s m [.ref y, .int (nI w9), .int (pd_m o)].toArray below meth c H locs 0 0 (MQ below (pd_Q G Value.int (fun r h1 => (¬ ((gm_pat cs (sA 1) (eA 1)).isSome = true ∧ ¬ o = none) ∧ r = -1 ∧ pd_kx [20, 51, 52, 53, 54, 55, 56, 57, 58] h h1 ∧ ∃ a b c9 d, pd_MO G h1 y ad fv (pd_fu (pd_fu (pd_fu (pd_fu iv 37 a) 38 b) 39 c9) 40 d) tl) ∨ (((gm_pat cs (sA 1) (eA 1)).isSome = true ∧ ¬ o = none) ∧ ∀ x, o = some x → r = (gr_radd u U (rf x)).1 ∧ pd_kx [20, 51, 52, 53, 54, 55, 56, 57, 58] h h1 ∧ ∃ fv2 iv2, pd_MO G h1 y ad fv2 iv2 tl ∧ gm_U fv2 iv2 (gr_radd u U (rf x)).2.1 (gr_radd u U (rf x)).2.2 ∧ gm_fr [21, 22, 23, 24, 25, 26, 27, 28] [29, 37, 38, 39, 40] fv iv fv2 iv2))) [.ref y, .int (nI w9), .int (pd_m o)].toArray s rm_Mod_rule.cells rm_Mod_rule.slots (fun q => G.2.1 ≤ q)) (F0 m 75 ls []) := by
  have hx := X.1
  have hb := X.2.1
  have hz_y := hMO.2.1
  have hy0 : h y = some (20, .inr (10, [.ref (ad 0), .ref (ad 1), .ref (ad 2), .int (iv 3), .int (iv 4), .int (iv 5), .ref (ad 6), .ref (ad 7), .ref (ad 8), .ref (ad 9), .ref (ad 10), .ref (ad 11), .int (iv 12), .ref (ad 13), .ref (ad 14), .ref (ad 15), .ref (ad 16), .ref (ad 17), .ref (ad 18), .ref (ad 19), .int (iv 20), .ref (ad 21), .ref (ad 22), .ref (ad 23), .ref (ad 24), .ref (ad 25), .ref (ad 26), .ref (ad 27), .ref (ad 28), .int (iv 29), .ref (ad 30), .ref (ad 31), .int (iv 32), .int (iv 33), .int (iv 34), .int (iv 35), .long tl, .int (iv 37), .int (iv 38), .int (iv 39), .int (iv 40), .ref (ad 41), .ref (ad 42), .int (iv 43)])) := hMO.1
  have ha0 : h (ad 0) = some (30, .inl (.int, 60, .inl (fv 0))) := (hMO.2.2 0 (by decide)).1
  have ha1 : h (ad 1) = some (31, .inl (.int, 40, .inl (fv 1))) := (hMO.2.2 1 (by decide)).1
  have ha2 : h (ad 2) = some (32, .inl (.int, 40, .inl (fv 2))) := (hMO.2.2 2 (by decide)).1
  have ha21 : h (ad 21) = some (51, .inl (.int, 24, .inl (fv 21))) := (hMO.2.2 21 (by decide)).1
  have ha22 : h (ad 22) = some (52, .inl (.int, 24, .inl (fv 22))) := (hMO.2.2 22 (by decide)).1
  have ha23 : h (ad 23) = some (53, .inl (.int, 576, .inl (fv 23))) := (hMO.2.2 23 (by decide)).1
  have ha24 : h (ad 24) = some (54, .inl (.int, 24, .inl (fv 24))) := (hMO.2.2 24 (by decide)).1
  have ha25 : h (ad 25) = some (55, .inl (.int, 24, .inl (fv 25))) := (hMO.2.2 25 (by decide)).1
  have ha26 : h (ad 26) = some (56, .inl (.int, 1440, .inl (fv 26))) := (hMO.2.2 26 (by decide)).1
  have ha27 : h (ad 27) = some (57, .inl (.int, 24, .inl (fv 27))) := (hMO.2.2 27 (by decide)).1
  have ha28 : h (ad 28) = some (58, .inl (.int, 24, .inl (fv 28))) := (hMO.2.2 28 (by decide)).1
  obtain ⟨hiv3, hln, hl60, hlc⟩ := id hL
  obtain ⟨hiv29, hu24, hUu⟩ := id hU
  have hw31 := hW.1
  have hwl1 := (hW.2 1 (by omega)).2.2
  have hil : ∀ x, o = some x → x < 2 ^ 31 := fun x hx => by have := ho x hx; omega
  intro kk9
  induction kk9 with
  | zero => intros; omega
  | succ kk9 ih =>
    intro i t9 x9 fo3 hh hk2 hMO2 ht9 hox hu9 hi hf3 hk3 hi3 hmu H locs w ls hl
    have hz_y := hMO2.2.1
    have hx9 := ho x9 hox
    have hy2 : hh y = some (20, .inr (10, [.ref (ad 0), .ref (ad 1), .ref (ad 2), .int (iv 3), .int (iv 4), .int (iv 5), .ref (ad 6), .ref (ad 7), .ref (ad 8), .ref (ad 9), .ref (ad 10), .ref (ad 11), .int (iv 12), .ref (ad 13), .ref (ad 14), .ref (ad 15), .ref (ad 16), .ref (ad 17), .ref (ad 18), .ref (ad 19), .int (iv 20), .ref (ad 21), .ref (ad 22), .ref (ad 23), .ref (ad 24), .ref (ad 25), .ref (ad 26), .ref (ad 27), .ref (ad 28), .int (iv 29), .ref (ad 30), .ref (ad 31), .int (iv 32), .int (iv 33), .int (iv 34), .int (iv 35), .long tl, .int (nI t9.1), .int (nI t9.2.1), .int (nI t9.2.2.1), .int (nI t9.2.2.2), .ref (ad 41), .ref (ad 42), .int (iv 43)])) := hMO2.1
    obtain ⟨⟨hp1, hp2⟩, hp3, hp4, hp5, hp6, hp7, hp8⟩ := hpt t9 ht9
    have ha0 : hh (ad 0) = some (30, .inl (.int, 60, .inl (fv 0))) := (hMO2.2.2 0 (by decide)).1
    have ha1 : hh (ad 1) = some (31, .inl (.int, 40, .inl (fv 1))) := (hMO2.2.2 1 (by decide)).1
    have ha2 : hh (ad 2) = some (32, .inl (.int, 40, .inl (fv 2))) := (hMO2.2.2 2 (by decide)).1
    have ha21 : hh (ad 21) = some (51, .inl (.int, 24, .inl (upd (fv 21) u (nI w9)))) := (hMO2.2.2 21 (by decide)).1
    have ha22 : hh (ad 22) = some (52, .inl (.int, 24, .inl (upd (fv 22) u (nI t9.1)))) := (hMO2.2.2 22 (by decide)).1
    have ha23 : hh (ad 23) = some (53, .inl (.int, 576, .inl (fo3))) := (hMO2.2.2 23 (by decide)).1
    have ha24 : hh (ad 24) = some (54, .inl (.int, 24, .inl (upd (fv 24) u (nI (t9.2.1 - (sA 1)))))) := (hMO2.2.2 24 (by decide)).1
    have ha25 : hh (ad 25) = some (55, .inl (.int, 24, .inl (fv 25))) := (hMO2.2.2 25 (by decide)).1
    have ha26 : hh (ad 26) = some (56, .inl (.int, 1440, .inl (fv 26))) := (hMO2.2.2 26 (by decide)).1
    have ha27 : hh (ad 27) = some (57, .inl (.int, 24, .inl (fv 27))) := (hMO2.2.2 27 (by decide)).1
    have ha28 : hh (ad 28) = some (58, .inl (.int, 24, .inl (upd (fv 28) u (nI x9)))) := (hMO2.2.2 28 (by decide)).1
    refine lv_iload hx hb d_p15m33_75 (lv_at hl 0 rfl) ?_
    refine lv_aload_n hx hb d_p15m33_77 rfl (lv_at hl 2 rfl) ?_
    refine pd_get X w hy2 rfl 24 (by decide) mT_1163 rfl rfl d_p15m33_78 ?_
    refine lv_iload_n hx hb d_p15m33_81 rfl (lv_at hl 1 rfl) ?_
    refine pd_iald X w ha24 (by omega) (by omega) d_p15m33_82 ?_
    refine pd_top (v' := .int (nI (t9.2.1 - (sA 1)))) (by rw [pk_us]) ?_
    refine pd_jge (tgt := 118) hx hb d_p15m33_83 (by decide) (by omega) (by omega) (fun q1 => ?_) (fun q1 => ?_)
    · -- taken: 118
      refine lv_aload_n hx hb d_p15m33_118 rfl (lv_at hl 2 rfl) ?_
      refine pd_get X w hy2 rfl 25 (by decide) mT_1164 rfl rfl d_p15m33_119 ?_
      refine lv_iload_n hx hb d_p15m33_122 rfl (lv_at hl 1 rfl) ?_
      refine lv_aload_n hx hb d_p15m33_123 rfl (lv_at hl 2 rfl) ?_
      refine pd_get X w hy2 rfl 39 (by decide) mT_1178 rfl rfl d_p15m33_124 ?_
      refine pd_iast X w ha25 (hMO.2.2 25 (by decide)).2 (by omega) (by omega) d_p15m33_127 (fun H locs w => ?_)
      have w : pd_w G s H locs (pd_up hh (ad 25) (55, .inl (.int, 24, .inl (upd (fv 25) u (nI t9.2.2.1))))) := w
      obtain ⟨h2, u5⟩ : ∃ z, z = pd_up hh (ad 25) (55, .inl (.int, 24, .inl (upd (fv 25) u (nI t9.2.2.1)))) := ⟨_, rfl⟩
      rw [← u5] at w
      have k3 : pd_kq (ad 25) hh h2 := by rw [u5]; exact pd_up_kq
      have f4 : h2 (ad 25) = some (55, .inl (.int, 24, .inl (upd (fv 25) u (nI t9.2.2.1)))) := by rw [u5]; exact pd_up_s _ _ _
      have f6 := k3 _ _ (pd_ne hy2 ha25 (by simp)) hy2
      have f7 := k3 _ _ (pd_ne ha0 ha25 (by simp)) ha0
      have f8 := k3 _ _ (pd_ne ha1 ha25 (by simp)) ha1
      have f9 := k3 _ _ (pd_ne ha2 ha25 (by simp)) ha2
      have f10 := k3 _ _ (pd_ne ha21 ha25 (by simp)) ha21
      have f11 := k3 _ _ (pd_ne ha22 ha25 (by simp)) ha22
      have f12 := k3 _ _ (pd_ne ha23 ha25 (by simp)) ha23
      have f13 := k3 _ _ (pd_ne ha24 ha25 (by simp)) ha24
      have f14 := k3 _ _ (pd_ne ha26 ha25 (by simp)) ha26
      have f15 := k3 _ _ (pd_ne ha27 ha25 (by simp)) ha27
      have f16 := k3 _ _ (pd_ne ha28 ha25 (by simp)) ha28
      refine lv_aload_n hx hb d_p15m33_128 rfl (lv_at hl 2 rfl) ?_
      refine pd_get X w f6 rfl 27 (by decide) mT_1166 rfl rfl d_p15m33_129 ?_
      refine lv_iload_n hx hb d_p15m33_132 rfl (lv_at hl 1 rfl) ?_
      refine lv_aload_n hx hb d_p15m33_133 rfl (lv_at hl 2 rfl) ?_
      refine pd_get X w f6 rfl 2 (by decide) mT_1141 rfl rfl d_p15m33_134 ?_
      refine lv_iconst (v := nI 1) hx hb d_p15m33_137 (by decide) ?_
      refine pd_iald X w f9 (by omega) (by omega) d_p15m33_138 ?_
      refine pd_top (v' := .int (nI (eA 1))) (congrArg Value.int (hW.2 1 (by omega)).2.1) ?_
      refine lv_aload_n hx hb d_p15m33_139 rfl (lv_at hl 2 rfl) ?_
      refine pd_get X w f6 rfl 40 (by decide) mT_1179 rfl rfl d_p15m33_140 ?_
      refine pd_isub hx hb d_p15m33_143 (by omega) ?_
      refine pd_iast X w f15 (hMO.2.2 27 (by decide)).2 (by omega) (by omega) d_p15m33_144 (fun H locs w => ?_)
      have w : pd_w G s H locs (pd_up h2 (ad 27) (57, .inl (.int, 24, .inl (upd (fv 27) u (nI ((eA 1) - t9.2.2.2)))))) := w
      obtain ⟨h17, u20⟩ : ∃ z, z = pd_up h2 (ad 27) (57, .inl (.int, 24, .inl (upd (fv 27) u (nI ((eA 1) - t9.2.2.2))))) := ⟨_, rfl⟩
      rw [← u20] at w
      have k18 : pd_kq (ad 27) h2 h17 := by rw [u20]; exact pd_up_kq
      have f19 : h17 (ad 27) = some (57, .inl (.int, 24, .inl (upd (fv 27) u (nI ((eA 1) - t9.2.2.2))))) := by rw [u20]; exact pd_up_s _ _ _
      have f21 := k18 _ _ (pd_ne f6 f15 (by simp)) f6
      have f22 := k18 _ _ (pd_ne f7 f15 (by simp)) f7
      have f23 := k18 _ _ (pd_ne f8 f15 (by simp)) f8
      have f24 := k18 _ _ (pd_ne f9 f15 (by simp)) f9
      have f25 := k18 _ _ (pd_ne f10 f15 (by simp)) f10
      have f26 := k18 _ _ (pd_ne f11 f15 (by simp)) f11
      have f27 := k18 _ _ (pd_ne f12 f15 (by simp)) f12
      have f28 := k18 _ _ (pd_ne f13 f15 (by simp)) f13
      have f29 := k18 _ _ (pd_ne f14 f15 (by simp)) f14
      have f30 := k18 _ _ (pd_ne f16 f15 (by simp)) f16
      have f31 := k18 _ _ (pd_ne f4 f15 (by simp)) f4
      refine lv_iconst (v := nI 0) hx hb d_p15m33_145 (by decide) ?_
      refine lv_istore (lv' := [(4, .int (nI 0)), (3, .int (nI u)), (0, .ref y), (1, .int (nI w9)), (2, .int (nI x9))]) hx hb d_p15m33_146 hl (by decide) rfl (fun ls hl => ?_)
      have mo32 : pd_MO G h17 y ad (pd_fu (pd_fu (pd_fu (pd_fu (pd_fu (pd_fu (pd_fu fv 21 (upd (fv 21) u (nI w9))) 22 (upd (fv 22) u (nI t9.1))) 23 fo3) 24 (upd (fv 24) u (nI (t9.2.1 - (sA 1))))) 28 (upd (fv 28) u (nI x9))) 25 (upd (fv 25) u (nI t9.2.2.1))) 27 (upd (fv 27) u (nI ((eA 1) - t9.2.2.2)))) (pd_fu (pd_fu (pd_fu (pd_fu iv 37 (nI t9.1)) 38 (nI t9.2.1)) 39 (nI t9.2.2.1)) 40 (nI t9.2.2.2)) tl := pd_MO.of (ts := [55, 57]) hMO2 (pd_kx.tr (pd_kx.mono (us := [55, 57]) (pd_kq.kx (k3) ha25) (by simp)) (pd_kx.mono (us := [55, 57]) (pd_kq.kx (k18) f15) (by simp))) f21 (fun j hj => if e25 : j = 25 then by subst e25; exact Or.inl f31 else if e27 : j = 27 then by subst e27; exact Or.inl f19 else Or.inr ⟨fun z => by first | (simp at z; done) | (simp at z; omega), by rw [pd_fu_n e27, pd_fu_n e25]⟩)
      exact lp_Mod_rule_148 l G h hMO hL hU hW hnw hw9 ho hrf hpt X hmn (100 + 1) 0 t9 x9 fo3 (fv 26) h17 (hk2.tr (pd_kx.mono (us := [20, 51, 52, 53, 54, 55, 56, 57, 58]) (pd_kx.tr (pd_kx.mono (us := [55, 57]) (pd_kq.kx (k3) ha25) (by simp)) (pd_kx.mono (us := [55, 57]) (pd_kq.kx (k18) f15) (by simp))) (by simp))) ((pd_MO.ext (fv2 := pd_fu (pd_fu (pd_fu (pd_fu (pd_fu (pd_fu (pd_fu (pd_fu fv 21 (upd (fv 21) u (nI w9))) 22 (upd (fv 22) u (nI t9.1))) 23 fo3) 24 (upd (fv 24) u (nI (t9.2.1 - (sA 1))))) 25 (upd (fv 25) u (nI t9.2.2.1))) 26 (fv 26)) 27 (upd (fv 27) u (nI ((eA 1) - t9.2.2.2)))) 28 (upd (fv 28) u (nI x9))) (iv2 := pd_fu (pd_fu (pd_fu (pd_fu iv 37 (nI t9.1)) 38 (nI t9.2.1)) 39 (nI t9.2.2.1)) 40 (nI t9.2.2.2)) mo32 (fun j9 hj9 => by by_cases e921 : j9 = 21; subst e921; rfl; by_cases e922 : j9 = 22; subst e922; rfl; by_cases e923 : j9 = 23; subst e923; rfl; by_cases e924 : j9 = 24; subst e924; rfl; by_cases e925 : j9 = 25; subst e925; rfl; by_cases e926 : j9 = 26; subst e926; rfl; by_cases e927 : j9 = 27; subst e927; rfl; by_cases e928 : j9 = 28; subst e928; rfl; simp only [pd_fu, if_neg e921, if_neg e922, if_neg e923, if_neg e924, if_neg e925, if_neg e926, if_neg e927, if_neg e928]) rfl)) (ht9) (hox) (by omega) (by omega) (fun j hj => hf3 j (by omega)) (hk3) (fun j hj => absurd hj (Nat.not_lt_zero j)) (fun _ _ => rfl) (by omega) (by omega) _ _ w ls (lv_sub hl [0, 1, 2, 3, 4] rfl)
    · -- not taken: 86
      refine lv_aload_n hx hb d_p15m33_86 rfl (lv_at hl 2 rfl) ?_
      refine pd_get X w hy2 rfl 23 (by decide) mT_1162 rfl rfl d_p15m33_87 ?_
      refine lv_bipush (v := nI 24) hx hb d_p15m33_90 (by decide) ?_
      refine lv_iload_n hx hb d_p15m33_92 rfl (lv_at hl 1 rfl) ?_
      refine pd_imul hx hb d_p15m33_93 ?_
      refine lv_iload hx hb d_p15m33_94 (lv_at hl 0 rfl) ?_
      refine pd_iadd hx hb d_p15m33_96 ?_
      refine lv_aload_n hx hb d_p15m33_97 rfl (lv_at hl 2 rfl) ?_
      refine pd_get X w hy2 rfl 0 (by decide) mT_1139 rfl rfl d_p15m33_98 ?_
      refine lv_aload_n hx hb d_p15m33_101 rfl (lv_at hl 2 rfl) ?_
      refine pd_get X w hy2 rfl 1 (by decide) mT_1140 rfl rfl d_p15m33_102 ?_
      refine lv_iconst (v := nI 1) hx hb d_p15m33_105 (by decide) ?_
      refine pd_iald X w ha1 (by omega) (by omega) d_p15m33_106 ?_
      refine pd_top (v' := .int (nI (sA 1))) (congrArg Value.int (hW.2 1 (by omega)).1) ?_
      refine lv_iload hx hb d_p15m33_107 (lv_at hl 0 rfl) ?_
      refine pd_iadd hx hb d_p15m33_109 ?_
      refine pd_iald X w ha0 (by omega) (by omega) d_p15m33_110 ?_
      refine pd_top (v' := .int (nI (cs.getD ((sA 1) + i) 0))) (congrArg Value.int (hln _ (by omega))) ?_
      have := tx_lt hlc ((sA 1) + i)
      refine pd_iast X w ha23 (hMO.2.2 23 (by decide)).2 (by omega) (by omega) d_p15m33_111 (fun H locs w => ?_)
      have w : pd_w G s H locs (pd_up hh (ad 23) (53, .inl (.int, 576, .inl (upd fo3 ((24 * u) + i) (nI (cs.getD ((sA 1) + i) 0)))))) := w
      obtain ⟨h33, u36⟩ : ∃ z, z = pd_up hh (ad 23) (53, .inl (.int, 576, .inl (upd fo3 ((24 * u) + i) (nI (cs.getD ((sA 1) + i) 0))))) := ⟨_, rfl⟩
      rw [← u36] at w
      have k34 : pd_kq (ad 23) hh h33 := by rw [u36]; exact pd_up_kq
      have f35 : h33 (ad 23) = some (53, .inl (.int, 576, .inl (upd fo3 ((24 * u) + i) (nI (cs.getD ((sA 1) + i) 0))))) := by rw [u36]; exact pd_up_s _ _ _
      have f37 := k34 _ _ (pd_ne hy2 ha23 (by simp)) hy2
      have f38 := k34 _ _ (pd_ne ha0 ha23 (by simp)) ha0
      have f39 := k34 _ _ (pd_ne ha1 ha23 (by simp)) ha1
      have f40 := k34 _ _ (pd_ne ha2 ha23 (by simp)) ha2
      have f41 := k34 _ _ (pd_ne ha21 ha23 (by simp)) ha21
      have f42 := k34 _ _ (pd_ne ha22 ha23 (by simp)) ha22
      have f43 := k34 _ _ (pd_ne ha24 ha23 (by simp)) ha24
      have f44 := k34 _ _ (pd_ne ha25 ha23 (by simp)) ha25
      have f45 := k34 _ _ (pd_ne ha26 ha23 (by simp)) ha26
      have f46 := k34 _ _ (pd_ne ha27 ha23 (by simp)) ha27
      have f47 := k34 _ _ (pd_ne ha28 ha23 (by simp)) ha28
      refine pd_iinc (k := 0) (d := 1) (lv' := [(4, .int (nI (i + 1))), (3, .int (nI u)), (0, .ref y), (1, .int (nI w9)), (2, .int (nI x9))]) hx hb d_p15m33_112 (by decide) hl rfl (by decide) rfl (fun ls hl => ?_)
      refine lv_goto (tgt := 75) hx hb d_p15m33_115 (by decide) ?_
      have mo48 : pd_MO G h33 y ad (pd_fu (pd_fu (pd_fu (pd_fu (pd_fu (pd_fu fv 21 (upd (fv 21) u (nI w9))) 22 (upd (fv 22) u (nI t9.1))) 23 fo3) 24 (upd (fv 24) u (nI (t9.2.1 - (sA 1))))) 28 (upd (fv 28) u (nI x9))) 23 (upd fo3 ((24 * u) + i) (nI (cs.getD ((sA 1) + i) 0)))) (pd_fu (pd_fu (pd_fu (pd_fu iv 37 (nI t9.1)) 38 (nI t9.2.1)) 39 (nI t9.2.2.1)) 40 (nI t9.2.2.2)) tl := pd_MO.of (ts := [53]) hMO2 (pd_kq.kx (k34) ha23) f37 (fun j hj => if e23 : j = 23 then by subst e23; exact Or.inl f35 else Or.inr ⟨fun z => by first | (simp at z; done) | (simp at z; omega), by rw [pd_fu_n e23]⟩)
      exact ih (i + 1) t9 x9 (upd fo3 ((24 * u) + i) (nI (cs.getD ((sA 1) + i) 0))) h33 (hk2.tr (pd_kx.mono (us := [20, 51, 52, 53, 54, 55, 56, 57, 58]) (pd_kq.kx (k34) ha23) (by simp))) ((pd_MO.ext (fv2 := pd_fu (pd_fu (pd_fu (pd_fu (pd_fu fv 21 (upd (fv 21) u (nI w9))) 22 (upd (fv 22) u (nI t9.1))) 23 (upd fo3 ((24 * u) + i) (nI (cs.getD ((sA 1) + i) 0)))) 24 (upd (fv 24) u (nI (t9.2.1 - (sA 1))))) 28 (upd (fv 28) u (nI x9))) (iv2 := pd_fu (pd_fu (pd_fu (pd_fu iv 37 (nI t9.1)) 38 (nI t9.2.1)) 39 (nI t9.2.2.1)) 40 (nI t9.2.2.2)) mo48 (fun j9 hj9 => by by_cases e921 : j9 = 21; subst e921; rfl; by_cases e922 : j9 = 22; subst e922; rfl; by_cases e923 : j9 = 23; subst e923; rfl; by_cases e924 : j9 = 24; subst e924; rfl; by_cases e928 : j9 = 28; subst e928; rfl; simp only [pd_fu, if_neg e921, if_neg e922, if_neg e923, if_neg e924, if_neg e928]) rfl)) (ht9) (hox) (by omega) (by omega) (fun j hj => by by_cases e9 : j = i; subst e9; rw [pk_us]; rw [pk_un (by omega)]; exact hf3 j (by omega)) (fun x hx => by rw [pk_un (by omega)]; exact hk3 x hx) (by omega) (by omega) _ _ w ls (lv_sub hl [0, 1, 2, 3, 4] rfl)
set_option maxHeartbeats 4000000 in
set_option maxRecDepth 100000 in
theorem c_Mod_rule (l : Launch) (G : pd_G) (h : pd_H) {y : Nat} {ad : Nat → Nat} {fv : Nat → Nat → Int32} {iv : Nat → Int32} {tl : Int64} {cs : List Nat} {u : Nat} {U : Nat → pd_rr} {nw w9 : Nat} {sA eA : Nat → Nat} {o : Option Nat} {rf : Nat → pd_rr} (hMO : pd_MO G h y ad fv iv tl) (hL : gm_L fv iv cs) (hU : gm_U fv iv u U) (hW : gm_W fv cs nw sA eA) (hnw : 2 ≤ nw) (hw9 : w9 ≤ 3) (ho : ∀ t, o = some t → t < 1000) (hrf : ∀ x, (rf x).1 = w9 + 4 ∧ (rf x).2.1 = gr_w cs 1 ∧ gm_rn (rf x) = x) (hpt : ∀ t, gm_pat cs (sA 1) (eA 1) = some t → (t.1 = 3 - gr_rch (gr_w cs 1) ∧ t.2.2.1 = gr_bh (gr_w cs 1)) ∧ tx_sub cs (sA 1) t.2.1 = gr_pn (gr_w cs 1) ∧ (gr_bh (gr_w cs 1) = 2 → tx_sub cs t.2.2.2 (eA 1) = gr_ad (gr_w cs 1)) ∧ sA 1 ≤ t.2.1 ∧ t.2.1 ≤ eA 1 ∧ t.2.1 - sA 1 ≤ 24 ∧ t.2.2.2 ≤ eA 1) : pd_M l y_Mod_rule prog_15_method_33_code 5 (some .int) rm_Mod_rule G h [.ref y, .int (nI w9), .int (pd_m o)] Value.int (fun r h1 => (¬ ((gm_pat cs (sA 1) (eA 1)).isSome = true ∧ ¬ o = none) ∧ r = -1 ∧ pd_kx [20, 51, 52, 53, 54, 55, 56, 57, 58] h h1 ∧ ∃ a b c9 d, pd_MO G h1 y ad fv (pd_fu (pd_fu (pd_fu (pd_fu iv 37 a) 38 b) 39 c9) 40 d) tl) ∨ (((gm_pat cs (sA 1) (eA 1)).isSome = true ∧ ¬ o = none) ∧ ∀ x, o = some x → r = (gr_radd u U (rf x)).1 ∧ pd_kx [20, 51, 52, 53, 54, 55, 56, 57, 58] h h1 ∧ ∃ fv2 iv2, pd_MO G h1 y ad fv2 iv2 tl ∧ gm_U fv2 iv2 (gr_radd u U (rf x)).2.1 (gr_radd u U (rf x)).2.2 ∧ gm_fr [21, 22, 23, 24, 25, 26, 27, 28] [29, 37, 38, 39, 40] fv iv fv2 iv2)) := by
  refine pd_M.of (by decide) (Nat.le_of_ble_eq_true rfl) ?_
  intro p e s m below meth c X hmn w ls hl
  have hx := X.1
  have hb := X.2.1
  have hl : lv_has ls 5 [(0, .ref y), (1, .int (nI w9)), (2, .int (pd_m o))] := hl
  have hz_y := hMO.2.1
  have hy0 : h y = some (20, .inr (10, [.ref (ad 0), .ref (ad 1), .ref (ad 2), .int (iv 3), .int (iv 4), .int (iv 5), .ref (ad 6), .ref (ad 7), .ref (ad 8), .ref (ad 9), .ref (ad 10), .ref (ad 11), .int (iv 12), .ref (ad 13), .ref (ad 14), .ref (ad 15), .ref (ad 16), .ref (ad 17), .ref (ad 18), .ref (ad 19), .int (iv 20), .ref (ad 21), .ref (ad 22), .ref (ad 23), .ref (ad 24), .ref (ad 25), .ref (ad 26), .ref (ad 27), .ref (ad 28), .int (iv 29), .ref (ad 30), .ref (ad 31), .int (iv 32), .int (iv 33), .int (iv 34), .int (iv 35), .long tl, .int (iv 37), .int (iv 38), .int (iv 39), .int (iv 40), .ref (ad 41), .ref (ad 42), .int (iv 43)])) := hMO.1
  have ha0 : h (ad 0) = some (30, .inl (.int, 60, .inl (fv 0))) := (hMO.2.2 0 (by decide)).1
  have ha1 : h (ad 1) = some (31, .inl (.int, 40, .inl (fv 1))) := (hMO.2.2 1 (by decide)).1
  have ha2 : h (ad 2) = some (32, .inl (.int, 40, .inl (fv 2))) := (hMO.2.2 2 (by decide)).1
  have ha21 : h (ad 21) = some (51, .inl (.int, 24, .inl (fv 21))) := (hMO.2.2 21 (by decide)).1
  have ha22 : h (ad 22) = some (52, .inl (.int, 24, .inl (fv 22))) := (hMO.2.2 22 (by decide)).1
  have ha23 : h (ad 23) = some (53, .inl (.int, 576, .inl (fv 23))) := (hMO.2.2 23 (by decide)).1
  have ha24 : h (ad 24) = some (54, .inl (.int, 24, .inl (fv 24))) := (hMO.2.2 24 (by decide)).1
  have ha25 : h (ad 25) = some (55, .inl (.int, 24, .inl (fv 25))) := (hMO.2.2 25 (by decide)).1
  have ha26 : h (ad 26) = some (56, .inl (.int, 1440, .inl (fv 26))) := (hMO.2.2 26 (by decide)).1
  have ha27 : h (ad 27) = some (57, .inl (.int, 24, .inl (fv 27))) := (hMO.2.2 27 (by decide)).1
  have ha28 : h (ad 28) = some (58, .inl (.int, 24, .inl (fv 28))) := (hMO.2.2 28 (by decide)).1
  obtain ⟨hiv3, hln, hl60, hlc⟩ := id hL
  obtain ⟨hiv29, hu24, hUu⟩ := id hU
  have hw31 := hW.1
  have hwl1 := (hW.2 1 (by omega)).2.2
  have hil : ∀ x, o = some x → x < 2 ^ 31 := fun x hx => by have := ho x hx; omega
  refine lv_aload_n hx hb d_p15m33_0 rfl (lv_at hl 0 rfl) ?_
  refine lv_iconst (v := nI 1) hx hb d_p15m33_1 (by decide) ?_
  refine pd_cV (a := y) (As := [.int (nI 1)]) (rest := []) X w hy0 rfl (c_Mod_isPattern l G h (cs := cs) (nw := nw) (sA := sA) (eA := eA) (ad := ad) (fv := fv) (iv := iv) (tl := tl) hMO hL hW (by omega)) ok_Mod_isPattern ⟨mT_1375, sT_32⟩ mT_1373 ⟨by decide, by decide⟩ rfl hl.1 rfl (Nat.le_of_ble_eq_true rfl) d_p15m33_2 ⟨by decide, by decide⟩ (fun r1 h2 H locs hp3 w => ?_)
  refine W.widen (k := 0) (n := 0) (by decide) (by decide) ?_
  obtain ⟨e4, k5, v6, v7, v8, v9, f10, q11⟩ := hp3
  have f12 := k5 _ _ ha0 (show (30 : Nat) ∉ [20] by decide)
  have f13 := k5 _ _ ha1 (show (31 : Nat) ∉ [20] by decide)
  have f14 := k5 _ _ ha2 (show (32 : Nat) ∉ [20] by decide)
  have f15 := k5 _ _ ha21 (show (51 : Nat) ∉ [20] by decide)
  have f16 := k5 _ _ ha22 (show (52 : Nat) ∉ [20] by decide)
  have f17 := k5 _ _ ha23 (show (53 : Nat) ∉ [20] by decide)
  have f18 := k5 _ _ ha24 (show (54 : Nat) ∉ [20] by decide)
  have f19 := k5 _ _ ha25 (show (55 : Nat) ∉ [20] by decide)
  have f20 := k5 _ _ ha26 (show (56 : Nat) ∉ [20] by decide)
  have f21 := k5 _ _ ha27 (show (57 : Nat) ∉ [20] by decide)
  have f22 := k5 _ _ ha28 (show (58 : Nat) ∉ [20] by decide)
  have hy23 : h2 y = some (20, .inr (10, [.ref (ad 0), .ref (ad 1), .ref (ad 2), .int (iv 3), .int (iv 4), .int (iv 5), .ref (ad 6), .ref (ad 7), .ref (ad 8), .ref (ad 9), .ref (ad 10), .ref (ad 11), .int (iv 12), .ref (ad 13), .ref (ad 14), .ref (ad 15), .ref (ad 16), .ref (ad 17), .ref (ad 18), .ref (ad 19), .int (iv 20), .ref (ad 21), .ref (ad 22), .ref (ad 23), .ref (ad 24), .ref (ad 25), .ref (ad 26), .ref (ad 27), .ref (ad 28), .int (iv 29), .ref (ad 30), .ref (ad 31), .int (iv 32), .int (iv 33), .int (iv 34), .int (iv 35), .long tl, .int v6, .int v7, .int v8, .int v9, .ref (ad 41), .ref (ad 42), .int (iv 43)])) := f10.1
  have ha24 : h2 (ad 0) = some (30, .inl (.int, 60, .inl (fv 0))) := (f10.2.2 0 (by decide)).1
  have ha25 : h2 (ad 1) = some (31, .inl (.int, 40, .inl (fv 1))) := (f10.2.2 1 (by decide)).1
  have ha26 : h2 (ad 2) = some (32, .inl (.int, 40, .inl (fv 2))) := (f10.2.2 2 (by decide)).1
  have ha27 : h2 (ad 21) = some (51, .inl (.int, 24, .inl (fv 21))) := (f10.2.2 21 (by decide)).1
  have ha28 : h2 (ad 22) = some (52, .inl (.int, 24, .inl (fv 22))) := (f10.2.2 22 (by decide)).1
  have ha29 : h2 (ad 23) = some (53, .inl (.int, 576, .inl (fv 23))) := (f10.2.2 23 (by decide)).1
  have ha30 : h2 (ad 24) = some (54, .inl (.int, 24, .inl (fv 24))) := (f10.2.2 24 (by decide)).1
  have ha31 : h2 (ad 25) = some (55, .inl (.int, 24, .inl (fv 25))) := (f10.2.2 25 (by decide)).1
  have ha32 : h2 (ad 26) = some (56, .inl (.int, 1440, .inl (fv 26))) := (f10.2.2 26 (by decide)).1
  have ha33 : h2 (ad 27) = some (57, .inl (.int, 24, .inl (fv 27))) := (f10.2.2 27 (by decide)).1
  have ha34 : h2 (ad 28) = some (58, .inl (.int, 24, .inl (fv 28))) := (f10.2.2 28 (by decide)).1
  refine pd_beq (tgt := 12) hx hb d_p15m33_5 (by decide) (fun q35 => ?_) (fun q35 => ?_)
  · -- taken: 12
    refine lv_iconst (v := -1) hx hb d_p15m33_12 (by decide) ?_
    exact pd_iret (v := (-1)) X w (Or.inl ⟨(fun z => by have z1 := z.1; rw [← e4, q35] at z1; cases z1), rfl, pd_kx.mono (us := [20, 51, 52, 53, 54, 55, 56, 57, 58]) (k5) (by simp), v6, v7, v8, v9, f10⟩) (by decide) (by decide) d_p15m33_13
  · -- not taken: 8
    obtain ⟨t9, ht9⟩ := Option.isSome_iff_exists.mp (e4.symm.trans q35)
    obtain ⟨rfl, rfl, rfl, rfl⟩ := q11 t9 ht9
    obtain ⟨⟨hp1, hp2⟩, hp3, hp4, hp5, hp6, hp7, hp8⟩ := hpt t9 ht9
    refine lv_iload_n hx hb d_p15m33_8 rfl (lv_at hl 2 rfl) ?_
    refine pd_mge (tgt := 14) hx hb d_p15m33_9 (by decide) hil (fun q36 => ?_) (fun j37 q36 => ?_)
    · -- none: 12
      rw [q36] at hl
      have hl : lv_has ls 5 [(0, .ref y), (1, .int (nI w9)), (2, .int (-1))] := hl
      refine lv_iconst (v := -1) hx hb d_p15m33_12 (by decide) ?_
      exact pd_iret (v := (-1)) X w (Or.inl ⟨(fun z => z.2 q36), rfl, pd_kx.mono (us := [20, 51, 52, 53, 54, 55, 56, 57, 58]) (k5) (by simp), (nI t9.1), (nI t9.2.1), (nI t9.2.2.1), (nI t9.2.2.2), f10⟩) (by decide) (by decide) d_p15m33_13
    · -- some: 14
      rw [q36] at hl
      have hl : lv_has ls 5 [(0, .ref y), (1, .int (nI w9)), (2, .int (nI j37))] := hl
      have hx9 := ho j37 q36
      refine lv_aload_n hx hb d_p15m33_14 rfl (lv_at hl 0 rfl) ?_
      refine pd_get X w hy23 rfl 29 (by decide) mT_1168 rfl rfl d_p15m33_15 ?_
      refine pd_top (v' := .int (nI u)) (congrArg Value.int hiv29) ?_
      refine lv_bipush (v := nI 24) hx hb d_p15m33_18 (by decide) ?_
      refine pd_jne (tgt := 26) hx hb d_p15m33_20 (by decide) (by omega) (by omega) (fun q38 => ?_) (fun q38 => ?_)
      · -- taken: 26
        refine lv_aload_n hx hb d_p15m33_26 rfl (lv_at hl 0 rfl) ?_
        refine pd_get X w hy23 rfl 29 (by decide) mT_1168 rfl rfl d_p15m33_27 ?_
        refine pd_top (v' := .int (nI u)) (congrArg Value.int hiv29) ?_
        refine lv_istore_n (lv' := [(3, .int (nI u)), (0, .ref y), (1, .int (nI w9)), (2, .int (nI j37))]) hx hb d_p15m33_30 rfl hl (by decide) rfl (fun ls hl => ?_)
        refine lv_aload_n hx hb d_p15m33_31 rfl (lv_at hl 1 rfl) ?_
        refine pd_get X w hy23 rfl 21 (by decide) mT_1160 rfl rfl d_p15m33_32 ?_
        refine lv_iload_n hx hb d_p15m33_35 rfl (lv_at hl 0 rfl) ?_
        refine lv_iload_n hx hb d_p15m33_36 rfl (lv_at hl 2 rfl) ?_
        refine pd_iast X w ha27 (hMO.2.2 21 (by decide)).2 (by omega) (by omega) d_p15m33_37 (fun H locs w => ?_)
        have w : pd_w G s H locs (pd_up h2 (ad 21) (51, .inl (.int, 24, .inl (upd (fv 21) u (nI w9))))) := w
        obtain ⟨h39, u42⟩ : ∃ z, z = pd_up h2 (ad 21) (51, .inl (.int, 24, .inl (upd (fv 21) u (nI w9)))) := ⟨_, rfl⟩
        rw [← u42] at w
        have k40 : pd_kq (ad 21) h2 h39 := by rw [u42]; exact pd_up_kq
        have f41 : h39 (ad 21) = some (51, .inl (.int, 24, .inl (upd (fv 21) u (nI w9)))) := by rw [u42]; exact pd_up_s _ _ _
        have f43 := k40 _ _ (pd_ne hy23 ha27 (by simp)) hy23
        have f44 := k40 _ _ (pd_ne ha24 ha27 (by simp)) ha24
        have f45 := k40 _ _ (pd_ne ha25 ha27 (by simp)) ha25
        have f46 := k40 _ _ (pd_ne ha26 ha27 (by simp)) ha26
        have f47 := k40 _ _ (pd_ne ha28 ha27 (by simp)) ha28
        have f48 := k40 _ _ (pd_ne ha29 ha27 (by simp)) ha29
        have f49 := k40 _ _ (pd_ne ha30 ha27 (by simp)) ha30
        have f50 := k40 _ _ (pd_ne ha31 ha27 (by simp)) ha31
        have f51 := k40 _ _ (pd_ne ha32 ha27 (by simp)) ha32
        have f52 := k40 _ _ (pd_ne ha33 ha27 (by simp)) ha33
        have f53 := k40 _ _ (pd_ne ha34 ha27 (by simp)) ha34
        refine lv_aload_n hx hb d_p15m33_38 rfl (lv_at hl 1 rfl) ?_
        refine pd_get X w f43 rfl 28 (by decide) mT_1167 rfl rfl d_p15m33_39 ?_
        refine lv_iload_n hx hb d_p15m33_42 rfl (lv_at hl 0 rfl) ?_
        refine lv_iload_n hx hb d_p15m33_43 rfl (lv_at hl 3 rfl) ?_
        refine pd_iast X w f53 (hMO.2.2 28 (by decide)).2 (by omega) (by omega) d_p15m33_44 (fun H locs w => ?_)
        have w : pd_w G s H locs (pd_up h39 (ad 28) (58, .inl (.int, 24, .inl (upd (fv 28) u (nI j37))))) := w
        obtain ⟨h54, u57⟩ : ∃ z, z = pd_up h39 (ad 28) (58, .inl (.int, 24, .inl (upd (fv 28) u (nI j37)))) := ⟨_, rfl⟩
        rw [← u57] at w
        have k55 : pd_kq (ad 28) h39 h54 := by rw [u57]; exact pd_up_kq
        have f56 : h54 (ad 28) = some (58, .inl (.int, 24, .inl (upd (fv 28) u (nI j37)))) := by rw [u57]; exact pd_up_s _ _ _
        have f58 := k55 _ _ (pd_ne f43 f53 (by simp)) f43
        have f59 := k55 _ _ (pd_ne f44 f53 (by simp)) f44
        have f60 := k55 _ _ (pd_ne f45 f53 (by simp)) f45
        have f61 := k55 _ _ (pd_ne f46 f53 (by simp)) f46
        have f62 := k55 _ _ (pd_ne f47 f53 (by simp)) f47
        have f63 := k55 _ _ (pd_ne f48 f53 (by simp)) f48
        have f64 := k55 _ _ (pd_ne f49 f53 (by simp)) f49
        have f65 := k55 _ _ (pd_ne f50 f53 (by simp)) f50
        have f66 := k55 _ _ (pd_ne f51 f53 (by simp)) f51
        have f67 := k55 _ _ (pd_ne f52 f53 (by simp)) f52
        have f68 := k55 _ _ (pd_ne f41 f53 (by simp)) f41
        refine lv_aload_n hx hb d_p15m33_45 rfl (lv_at hl 1 rfl) ?_
        refine pd_get X w f58 rfl 22 (by decide) mT_1161 rfl rfl d_p15m33_46 ?_
        refine lv_iload_n hx hb d_p15m33_49 rfl (lv_at hl 0 rfl) ?_
        refine lv_aload_n hx hb d_p15m33_50 rfl (lv_at hl 1 rfl) ?_
        refine pd_get X w f58 rfl 37 (by decide) mT_1176 rfl rfl d_p15m33_51 ?_
        refine pd_iast X w f62 (hMO.2.2 22 (by decide)).2 (by omega) (by omega) d_p15m33_54 (fun H locs w => ?_)
        have w : pd_w G s H locs (pd_up h54 (ad 22) (52, .inl (.int, 24, .inl (upd (fv 22) u (nI t9.1))))) := w
        obtain ⟨h69, u72⟩ : ∃ z, z = pd_up h54 (ad 22) (52, .inl (.int, 24, .inl (upd (fv 22) u (nI t9.1)))) := ⟨_, rfl⟩
        rw [← u72] at w
        have k70 : pd_kq (ad 22) h54 h69 := by rw [u72]; exact pd_up_kq
        have f71 : h69 (ad 22) = some (52, .inl (.int, 24, .inl (upd (fv 22) u (nI t9.1)))) := by rw [u72]; exact pd_up_s _ _ _
        have f73 := k70 _ _ (pd_ne f58 f62 (by simp)) f58
        have f74 := k70 _ _ (pd_ne f59 f62 (by simp)) f59
        have f75 := k70 _ _ (pd_ne f60 f62 (by simp)) f60
        have f76 := k70 _ _ (pd_ne f61 f62 (by simp)) f61
        have f77 := k70 _ _ (pd_ne f63 f62 (by simp)) f63
        have f78 := k70 _ _ (pd_ne f64 f62 (by simp)) f64
        have f79 := k70 _ _ (pd_ne f65 f62 (by simp)) f65
        have f80 := k70 _ _ (pd_ne f66 f62 (by simp)) f66
        have f81 := k70 _ _ (pd_ne f67 f62 (by simp)) f67
        have f82 := k70 _ _ (pd_ne f68 f62 (by simp)) f68
        have f83 := k70 _ _ (pd_ne f56 f62 (by simp)) f56
        refine lv_aload_n hx hb d_p15m33_55 rfl (lv_at hl 1 rfl) ?_
        refine pd_get X w f73 rfl 24 (by decide) mT_1163 rfl rfl d_p15m33_56 ?_
        refine lv_iload_n hx hb d_p15m33_59 rfl (lv_at hl 0 rfl) ?_
        refine lv_aload_n hx hb d_p15m33_60 rfl (lv_at hl 1 rfl) ?_
        refine pd_get X w f73 rfl 38 (by decide) mT_1177 rfl rfl d_p15m33_61 ?_
        refine lv_aload_n hx hb d_p15m33_64 rfl (lv_at hl 1 rfl) ?_
        refine pd_get X w f73 rfl 1 (by decide) mT_1140 rfl rfl d_p15m33_65 ?_
        refine lv_iconst (v := nI 1) hx hb d_p15m33_68 (by decide) ?_
        refine pd_iald X w f75 (by omega) (by omega) d_p15m33_69 ?_
        refine pd_top (v' := .int (nI (sA 1))) (congrArg Value.int (hW.2 1 (by omega)).1) ?_
        refine pd_isub hx hb d_p15m33_70 (by omega) ?_
        refine pd_iast X w f78 (hMO.2.2 24 (by decide)).2 (by omega) (by omega) d_p15m33_71 (fun H locs w => ?_)
        have w : pd_w G s H locs (pd_up h69 (ad 24) (54, .inl (.int, 24, .inl (upd (fv 24) u (nI (t9.2.1 - (sA 1))))))) := w
        obtain ⟨h84, u87⟩ : ∃ z, z = pd_up h69 (ad 24) (54, .inl (.int, 24, .inl (upd (fv 24) u (nI (t9.2.1 - (sA 1)))))) := ⟨_, rfl⟩
        rw [← u87] at w
        have k85 : pd_kq (ad 24) h69 h84 := by rw [u87]; exact pd_up_kq
        have f86 : h84 (ad 24) = some (54, .inl (.int, 24, .inl (upd (fv 24) u (nI (t9.2.1 - (sA 1)))))) := by rw [u87]; exact pd_up_s _ _ _
        have f88 := k85 _ _ (pd_ne f73 f78 (by simp)) f73
        have f89 := k85 _ _ (pd_ne f74 f78 (by simp)) f74
        have f90 := k85 _ _ (pd_ne f75 f78 (by simp)) f75
        have f91 := k85 _ _ (pd_ne f76 f78 (by simp)) f76
        have f92 := k85 _ _ (pd_ne f77 f78 (by simp)) f77
        have f93 := k85 _ _ (pd_ne f79 f78 (by simp)) f79
        have f94 := k85 _ _ (pd_ne f80 f78 (by simp)) f80
        have f95 := k85 _ _ (pd_ne f81 f78 (by simp)) f81
        have f96 := k85 _ _ (pd_ne f82 f78 (by simp)) f82
        have f97 := k85 _ _ (pd_ne f83 f78 (by simp)) f83
        have f98 := k85 _ _ (pd_ne f71 f78 (by simp)) f71
        refine lv_iconst (v := nI 0) hx hb d_p15m33_72 (by decide) ?_
        refine lv_istore (lv' := [(4, .int (nI 0)), (3, .int (nI u)), (0, .ref y), (1, .int (nI w9)), (2, .int (nI j37))]) hx hb d_p15m33_73 hl (by decide) rfl (fun ls hl => ?_)
        have mo99 : pd_MO G h84 y ad (pd_fu (pd_fu (pd_fu (pd_fu fv 21 (upd (fv 21) u (nI w9))) 22 (upd (fv 22) u (nI t9.1))) 24 (upd (fv 24) u (nI (t9.2.1 - (sA 1))))) 28 (upd (fv 28) u (nI j37))) (pd_fu (pd_fu (pd_fu (pd_fu iv 37 (nI t9.1)) 38 (nI t9.2.1)) 39 (nI t9.2.2.1)) 40 (nI t9.2.2.2)) tl := pd_MO.of (ts := [51, 58, 52, 54]) f10 (pd_kx.tr (pd_kx.mono (us := [51, 58, 52, 54]) (pd_kx.tr (pd_kx.mono (us := [51, 58, 52]) (pd_kx.tr (pd_kx.mono (us := [51, 58]) (pd_kq.kx (k40) ha27) (by simp)) (pd_kx.mono (us := [51, 58]) (pd_kq.kx (k55) f53) (by simp))) (by simp)) (pd_kx.mono (us := [51, 58, 52]) (pd_kq.kx (k70) f62) (by simp))) (by simp)) (pd_kx.mono (us := [51, 58, 52, 54]) (pd_kq.kx (k85) f78) (by simp))) f88 (fun j hj => if e21 : j = 21 then by subst e21; exact Or.inl f96 else if e22 : j = 22 then by subst e22; exact Or.inl f98 else if e24 : j = 24 then by subst e24; exact Or.inl f86 else if e28 : j = 28 then by subst e28; exact Or.inl f97 else Or.inr ⟨fun z => by first | (simp at z; done) | (simp at z; omega), by rw [pd_fu_n e28, pd_fu_n e24, pd_fu_n e22, pd_fu_n e21]⟩)
        exact lp_Mod_rule_75 l G h hMO hL hU hW hnw hw9 ho hrf hpt X hmn (100 + 1) 0 t9 j37 (fv 23) h84 (pd_kx.mono (us := [20, 51, 52, 53, 54, 55, 56, 57, 58]) (pd_kx.tr (pd_kx.mono (us := [20, 51, 58, 52, 54]) (pd_kx.tr (pd_kx.mono (us := [20, 51, 58, 52]) (pd_kx.tr (pd_kx.mono (us := [20, 51, 58]) (pd_kx.tr (pd_kx.mono (us := [20, 51]) (k5) (by simp)) (pd_kx.mono (us := [20, 51]) (pd_kq.kx (k40) ha27) (by simp))) (by simp)) (pd_kx.mono (us := [20, 51, 58]) (pd_kq.kx (k55) f53) (by simp))) (by simp)) (pd_kx.mono (us := [20, 51, 58, 52]) (pd_kq.kx (k70) f62) (by simp))) (by simp)) (pd_kx.mono (us := [20, 51, 58, 52, 54]) (pd_kq.kx (k85) f78) (by simp))) (by simp)) ((pd_MO.ext (fv2 := pd_fu (pd_fu (pd_fu (pd_fu (pd_fu fv 21 (upd (fv 21) u (nI w9))) 22 (upd (fv 22) u (nI t9.1))) 23 (fv 23)) 24 (upd (fv 24) u (nI (t9.2.1 - (sA 1))))) 28 (upd (fv 28) u (nI j37))) (iv2 := pd_fu (pd_fu (pd_fu (pd_fu iv 37 (nI t9.1)) 38 (nI t9.2.1)) 39 (nI t9.2.2.1)) 40 (nI t9.2.2.2)) mo99 (fun j9 hj9 => by by_cases e921 : j9 = 21; subst e921; rfl; by_cases e922 : j9 = 22; subst e922; rfl; by_cases e923 : j9 = 23; subst e923; rfl; by_cases e924 : j9 = 24; subst e924; rfl; by_cases e928 : j9 = 28; subst e928; rfl; simp only [pd_fu, if_neg e921, if_neg e922, if_neg e923, if_neg e924, if_neg e928]) rfl)) (ht9) (q36) (by omega) (by omega) (fun j hj => absurd hj (Nat.not_lt_zero j)) (fun _ _ => rfl) (by omega) (by omega) _ _ w ls (lv_sub hl [0, 1, 2, 3, 4] rfl)
      · -- not taken: 23
        refine lv_bipush (v := -5) hx hb d_p15m33_23 (by decide) ?_
        exact pd_iret (v := (-5)) X w (Or.inr ⟨⟨by rw [ht9]; rfl, by rw [q36]; simp⟩, fun x hx => by rw [q36] at hx; cases hx; exact ⟨by rw [gr_radd_n (by omega)], pd_kx.mono (us := [20, 51, 52, 53, 54, 55, 56, 57, 58]) (k5) (by simp), fv, _, f10, (by rw [gr_radd_n (by omega)]; exact hU), ⟨fun _ _ => rfl, fun j hj => by simp at hj; simp [pd_fu, hj]⟩⟩⟩) (by decide) (by decide) d_p15m33_25
