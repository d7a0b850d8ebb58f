/-! the reference's members -/
def gm_M (fv : Nat → Nat → Int32) (iv : Nat → Int32) (n k : Nat) (M : Nat → pd_mr) : Prop := iv 20 = nI k ∧ k ≤ 24 ∧ ∀ j, j < k → fv 13 j = nI (M j).1 ∧ (M j).1 < n ∧ fv 14 j = nI (M j).2.2.2 ∧ (M j).2.2.2 < 4 ∧ fv 16 j = nI (M j).2.1.length ∧ (M j).2.1.length ≤ 12 ∧ (∀ i, i < (M j).2.1.length → fv 15 (12 * j + i) = nI ((M j).2.1.getD i 0)) ∧ (∀ x ∈ (M j).2.1, x < 256) ∧ fv 18 j = nI (M j).2.2.1.length ∧ (M j).2.2.1.length ≤ 60 ∧ (∀ i, i < (M j).2.2.1.length → fv 17 (60 * j + i) = nI ((M j).2.2.1.getD i 0)) ∧ (∀ x ∈ (M j).2.2.1, x < 256) ∧ fv 19 j = pd_b (gr_ism (M j).2.2.1)
theorem pd_b_inj {a b : Bool} (h : pd_b a = pd_b b) : a = b := by
  cases a <;> cases b
  · rfl
  · exact absurd h (by decide)
  · exact absurd h (by decide)
  · rfl
theorem d_p15m21_0 : decode prog_15_method_21_code 0 = .ok (.aload_n 0, 1) := by decide +kernel
theorem d_p15m21_1 : decode prog_15_method_21_code 1 = .ok (.getfield 60, 3) := by decide +kernel
theorem d_p15m21_4 : decode prog_15_method_21_code 4 = .ok (.iload_n 1, 1) := by decide +kernel
theorem d_p15m21_5 : decode prog_15_method_21_code 5 = .ok (.baload, 1) := by decide +kernel
theorem d_p15m21_6 : decode prog_15_method_21_code 6 = .ok (.iload 4, 2) := by decide +kernel
theorem d_p15m21_8 : decode prog_15_method_21_code 8 = .ok (.if_icmp .ne 22, 3) := by decide +kernel
theorem d_p15m21_11 : decode prog_15_method_21_code 11 = .ok (.aload_n 0, 1) := by decide +kernel
theorem d_p15m21_12 : decode prog_15_method_21_code 12 = .ok (.getfield 51, 3) := by decide +kernel
theorem d_p15m21_15 : decode prog_15_method_21_code 15 = .ok (.iload_n 1, 1) := by decide +kernel
theorem d_p15m21_16 : decode prog_15_method_21_code 16 = .ok (.iaload, 1) := by decide +kernel
theorem d_p15m21_17 : decode prog_15_method_21_code 17 = .ok (.iload_n 2, 1) := by decide +kernel
theorem d_p15m21_18 : decode prog_15_method_21_code 18 = .ok (.aload_n 0, 1) := by decide +kernel
theorem d_p15m21_19 : decode prog_15_method_21_code 19 = .ok (.getfield 133, 3) := by decide +kernel
theorem d_p15m21_22 : decode prog_15_method_21_code 22 = .ok (.isub, 1) := by decide +kernel
theorem d_p15m21_23 : decode prog_15_method_21_code 23 = .ok (.if_icmp .ne 7, 3) := by decide +kernel
theorem d_p15m21_26 : decode prog_15_method_21_code 26 = .ok (.iconst 1, 1) := by decide +kernel
theorem d_p15m21_27 : decode prog_15_method_21_code 27 = .ok (.goto 4, 3) := by decide +kernel
theorem d_p15m21_30 : decode prog_15_method_21_code 30 = .ok (.iconst 0, 1) := by decide +kernel
theorem d_p15m21_31 : decode prog_15_method_21_code 31 = .ok (.istore 5, 2) := by decide +kernel
theorem d_p15m21_33 : decode prog_15_method_21_code 33 = .ok (.iconst 0, 1) := by decide +kernel
theorem d_p15m21_34 : decode prog_15_method_21_code 34 = .ok (.istore 6, 2) := by decide +kernel
theorem d_p15m21_36 : decode prog_15_method_21_code 36 = .ok (.iload 6, 2) := by decide +kernel
theorem d_p15m21_38 : decode prog_15_method_21_code 38 = .ok (.aload_n 0, 1) := by decide +kernel
theorem d_p15m21_39 : decode prog_15_method_21_code 39 = .ok (.getfield 51, 3) := by decide +kernel
theorem d_p15m21_42 : decode prog_15_method_21_code 42 = .ok (.iload_n 1, 1) := by decide +kernel
theorem d_p15m21_43 : decode prog_15_method_21_code 43 = .ok (.iaload, 1) := by decide +kernel
theorem d_p15m21_44 : decode prog_15_method_21_code 44 = .ok (.if_icmp .ge 48, 3) := by decide +kernel
theorem d_p15m21_47 : decode prog_15_method_21_code 47 = .ok (.iload 5, 2) := by decide +kernel
theorem d_p15m21_49 : decode prog_15_method_21_code 49 = .ok (.ifCond .eq 43, 3) := by decide +kernel
theorem d_p15m21_52 : decode prog_15_method_21_code 52 = .ok (.aload_n 0, 1) := by decide +kernel
theorem d_p15m21_53 : decode prog_15_method_21_code 53 = .ok (.getfield 48, 3) := by decide +kernel
theorem d_p15m21_56 : decode prog_15_method_21_code 56 = .ok (.bipush 12, 2) := by decide +kernel
theorem d_p15m21_58 : decode prog_15_method_21_code 58 = .ok (.iload_n 1, 1) := by decide +kernel
theorem d_p15m21_59 : decode prog_15_method_21_code 59 = .ok (.imul, 1) := by decide +kernel
theorem d_p15m21_60 : decode prog_15_method_21_code 60 = .ok (.iload 6, 2) := by decide +kernel
theorem d_p15m21_62 : decode prog_15_method_21_code 62 = .ok (.iadd, 1) := by decide +kernel
theorem d_p15m21_63 : decode prog_15_method_21_code 63 = .ok (.iaload, 1) := by decide +kernel
theorem d_p15m21_64 : decode prog_15_method_21_code 64 = .ok (.aload_n 0, 1) := by decide +kernel
theorem d_p15m21_65 : decode prog_15_method_21_code 65 = .ok (.getfield 7, 3) := by decide +kernel
theorem d_p15m21_68 : decode prog_15_method_21_code 68 = .ok (.aload_n 0, 1) := by decide +kernel
theorem d_p15m21_69 : decode prog_15_method_21_code 69 = .ok (.getfield 133, 3) := by decide +kernel
theorem d_p15m21_72 : decode prog_15_method_21_code 72 = .ok (.iload 6, 2) := by decide +kernel
theorem d_p15m21_74 : decode prog_15_method_21_code 74 = .ok (.iadd, 1) := by decide +kernel
theorem d_p15m21_75 : decode prog_15_method_21_code 75 = .ok (.iaload, 1) := by decide +kernel
theorem d_p15m21_76 : decode prog_15_method_21_code 76 = .ok (.if_icmp .ne 7, 3) := by decide +kernel
theorem d_p15m21_79 : decode prog_15_method_21_code 79 = .ok (.iconst 1, 1) := by decide +kernel
theorem d_p15m21_80 : decode prog_15_method_21_code 80 = .ok (.goto 4, 3) := by decide +kernel
theorem d_p15m21_83 : decode prog_15_method_21_code 83 = .ok (.iconst 0, 1) := by decide +kernel
theorem d_p15m21_84 : decode prog_15_method_21_code 84 = .ok (.istore 5, 2) := by decide +kernel
theorem d_p15m21_86 : decode prog_15_method_21_code 86 = .ok (.iinc 6 1, 3) := by decide +kernel
theorem d_p15m21_89 : decode prog_15_method_21_code 89 = .ok (.goto (-53), 3) := by decide +kernel
theorem d_p15m21_92 : decode prog_15_method_21_code 92 = .ok (.iload 5, 2) := by decide +kernel
theorem d_p15m21_94 : decode prog_15_method_21_code 94 = .ok (.ifCond .eq 7, 3) := by decide +kernel
theorem d_p15m21_97 : decode prog_15_method_21_code 97 = .ok (.iload_n 3, 1) := by decide +kernel
theorem d_p15m21_98 : decode prog_15_method_21_code 98 = .ok (.ifCond .ge 6, 3) := by decide +kernel
theorem d_p15m21_101 : decode prog_15_method_21_code 101 = .ok (.iload 5, 2) := by decide +kernel
theorem d_p15m21_103 : decode prog_15_method_21_code 103 = .ok (.ireturn, 1) := by decide +kernel
theorem d_p15m21_104 : decode prog_15_method_21_code 104 = .ok (.aload_n 0, 1) := by decide +kernel
theorem d_p15m21_105 : decode prog_15_method_21_code 105 = .ok (.getfield 57, 3) := by decide +kernel
theorem d_p15m21_108 : decode prog_15_method_21_code 108 = .ok (.iload_n 1, 1) := by decide +kernel
theorem d_p15m21_109 : decode prog_15_method_21_code 109 = .ok (.iaload, 1) := by decide +kernel
theorem d_p15m21_110 : decode prog_15_method_21_code 110 = .ok (.aload_n 0, 1) := by decide +kernel
theorem d_p15m21_111 : decode prog_15_method_21_code 111 = .ok (.getfield 16, 3) := by decide +kernel
theorem d_p15m21_114 : decode prog_15_method_21_code 114 = .ok (.iload_n 3, 1) := by decide +kernel
theorem d_p15m21_115 : decode prog_15_method_21_code 115 = .ok (.iaload, 1) := by decide +kernel
theorem d_p15m21_116 : decode prog_15_method_21_code 116 = .ok (.aload_n 0, 1) := by decide +kernel
theorem d_p15m21_117 : decode prog_15_method_21_code 117 = .ok (.getfield 13, 3) := by decide +kernel
theorem d_p15m21_120 : decode prog_15_method_21_code 120 = .ok (.iload_n 3, 1) := by decide +kernel
theorem d_p15m21_121 : decode prog_15_method_21_code 121 = .ok (.iaload, 1) := by decide +kernel
theorem d_p15m21_122 : decode prog_15_method_21_code 122 = .ok (.isub, 1) := by decide +kernel
theorem d_p15m21_123 : decode prog_15_method_21_code 123 = .ok (.if_icmp .ne 7, 3) := by decide +kernel
theorem d_p15m21_126 : decode prog_15_method_21_code 126 = .ok (.iconst 1, 1) := by decide +kernel
theorem d_p15m21_127 : decode prog_15_method_21_code 127 = .ok (.goto 4, 3) := by decide +kernel
theorem d_p15m21_130 : decode prog_15_method_21_code 130 = .ok (.iconst 0, 1) := by decide +kernel
theorem d_p15m21_131 : decode prog_15_method_21_code 131 = .ok (.istore 5, 2) := by decide +kernel
theorem d_p15m21_133 : decode prog_15_method_21_code 133 = .ok (.iconst 0, 1) := by decide +kernel
theorem d_p15m21_134 : decode prog_15_method_21_code 134 = .ok (.istore 6, 2) := by decide +kernel
theorem d_p15m21_136 : decode prog_15_method_21_code 136 = .ok (.iload 6, 2) := by decide +kernel
theorem d_p15m21_138 : decode prog_15_method_21_code 138 = .ok (.aload_n 0, 1) := by decide +kernel
theorem d_p15m21_139 : decode prog_15_method_21_code 139 = .ok (.getfield 57, 3) := by decide +kernel
theorem d_p15m21_142 : decode prog_15_method_21_code 142 = .ok (.iload_n 1, 1) := by decide +kernel
theorem d_p15m21_143 : decode prog_15_method_21_code 143 = .ok (.iaload, 1) := by decide +kernel
theorem d_p15m21_144 : decode prog_15_method_21_code 144 = .ok (.if_icmp .ge 50, 3) := by decide +kernel
theorem d_p15m21_147 : decode prog_15_method_21_code 147 = .ok (.iload 5, 2) := by decide +kernel
theorem d_p15m21_149 : decode prog_15_method_21_code 149 = .ok (.ifCond .eq 45, 3) := by decide +kernel
theorem d_p15m21_152 : decode prog_15_method_21_code 152 = .ok (.aload_n 0, 1) := by decide +kernel
theorem d_p15m21_153 : decode prog_15_method_21_code 153 = .ok (.getfield 54, 3) := by decide +kernel
theorem d_p15m21_156 : decode prog_15_method_21_code 156 = .ok (.bipush 60, 2) := by decide +kernel
theorem d_p15m21_158 : decode prog_15_method_21_code 158 = .ok (.iload_n 1, 1) := by decide +kernel
theorem d_p15m21_159 : decode prog_15_method_21_code 159 = .ok (.imul, 1) := by decide +kernel
theorem d_p15m21_160 : decode prog_15_method_21_code 160 = .ok (.iload 6, 2) := by decide +kernel
theorem d_p15m21_162 : decode prog_15_method_21_code 162 = .ok (.iadd, 1) := by decide +kernel
theorem d_p15m21_163 : decode prog_15_method_21_code 163 = .ok (.iaload, 1) := by decide +kernel
theorem d_p15m21_164 : decode prog_15_method_21_code 164 = .ok (.aload_n 0, 1) := by decide +kernel
theorem d_p15m21_165 : decode prog_15_method_21_code 165 = .ok (.getfield 7, 3) := by decide +kernel
theorem d_p15m21_168 : decode prog_15_method_21_code 168 = .ok (.aload_n 0, 1) := by decide +kernel
theorem d_p15m21_169 : decode prog_15_method_21_code 169 = .ok (.getfield 13, 3) := by decide +kernel
theorem d_p15m21_172 : decode prog_15_method_21_code 172 = .ok (.iload_n 3, 1) := by decide +kernel
theorem d_p15m21_173 : decode prog_15_method_21_code 173 = .ok (.iaload, 1) := by decide +kernel
theorem d_p15m21_174 : decode prog_15_method_21_code 174 = .ok (.iload 6, 2) := by decide +kernel
theorem d_p15m21_176 : decode prog_15_method_21_code 176 = .ok (.iadd, 1) := by decide +kernel
theorem d_p15m21_177 : decode prog_15_method_21_code 177 = .ok (.iaload, 1) := by decide +kernel
theorem d_p15m21_178 : decode prog_15_method_21_code 178 = .ok (.if_icmp .ne 7, 3) := by decide +kernel
theorem d_p15m21_181 : decode prog_15_method_21_code 181 = .ok (.iconst 1, 1) := by decide +kernel
theorem d_p15m21_182 : decode prog_15_method_21_code 182 = .ok (.goto 4, 3) := by decide +kernel
theorem d_p15m21_185 : decode prog_15_method_21_code 185 = .ok (.iconst 0, 1) := by decide +kernel
theorem d_p15m21_186 : decode prog_15_method_21_code 186 = .ok (.istore 5, 2) := by decide +kernel
theorem d_p15m21_188 : decode prog_15_method_21_code 188 = .ok (.iinc 6 1, 3) := by decide +kernel
theorem d_p15m21_191 : decode prog_15_method_21_code 191 = .ok (.goto (-55), 3) := by decide +kernel
theorem d_p15m21_194 : decode prog_15_method_21_code 194 = .ok (.iload 5, 2) := by decide +kernel
theorem d_p15m21_196 : decode prog_15_method_21_code 196 = .ok (.ireturn, 1) := by decide +kernel
abbrev y_Mod_isThisW : MethodName := ⟨"PolicyDeskModel", "isThis", "(IIIZ)Z"⟩
theorem ok_Mod_isThisW : pd_ok y_Mod_isThisW prog_15_method_21_code 7 (some .boolean) 4 := ⟨mT_1365, mT_21, by decide, by decide +kernel⟩
abbrev rm_Mod_isThisW : Room := { frames := 0, cells := 0, slots := 0, locals := 0 }
set_option maxHeartbeats 4000000 in
set_option maxRecDepth 100000 in
theorem lp_Mod_isThisW_136 (l : Launch) (G : pd_G) (h : pd_H) {y : Nat} {ad : Nat → Nat} {fv : Nat → Nat → Int32} {iv : Nat → Int32} {tl : Int64} {cs : List Nat} {n : Nat} {k : Nat} {M : Nat → pd_mr} {m9 pe tf : Nat} {mb : Bool} {nw w9 : Nat} {sA eA : Nat → Nat} (hMO : pd_MO G h y ad fv iv tl) (hL : gm_L fv iv cs) (hM : gm_M fv iv n k M) (hm9 : m9 < k) (hiv40 : iv 40 = nI tf) (htf : tf ≤ pe) (hpe : pe ≤ cs.length) (hW : gm_W fv cs nw sA eA) (hw9 : w9 < nw) {p : Program} {e : Env} {s : State} {m : MethodId} {below : List Frame} {meth : Method} {c : Code} (X : pd_B p s m [.ref y, .int (nI m9), .int (nI pe), .int (nI w9), .int (pd_b mb)].toArray meth c G y_Mod_isThisW.cls prog_15_method_21_code 7 (some .boolean)) (hmn : meth.name = y_Mod_isThisW.name) :
    ∀ (kk9 : Nat) (k9 : Nat) (sm : Bool), (gr_ism (M m9).2.2.1 = mb ∧ (M m9).2.1 = tx_sub cs tf pe) → (k9 ≤ (M m9).2.2.1.length) → (sm = true → (M m9).2.2.1.length = eA w9 - sA w9 ∧ ∀ t, t < k9 → (M m9).2.2.1.getD t 0 = cs.getD (sA w9 + t) 0) → (sm = false → ¬ (M m9).2.2.1 = tx_sub cs (sA w9) (eA w9)) → 100 - k9 < kk9 → ∀ (H : Heap) (locs : List Loc), pd_w G s H locs h → ∀ ls : Array Slot, lv_has ls 7 [(6, .int (nI k9)), (5, .int (pd_b sm)), (0, .ref y), (1, .int (nI m9)), (2, .int (nI pe)), (4, .int (pd_b mb)), (3, .int (nI w9))] → W p l e rm_Mod_isThisW s m [.ref y, .int (nI m9), .int (nI pe), .int (nI w9), .int (pd_b mb)].toArray below meth c H locs 0 0 (MQ below (pd_Q G pd_vb (fun r h1 => r = decide ((gr_ism (M m9).2.2.1 = mb ∧ (M m9).2.1 = tx_sub cs tf pe) ∧ (M m9).2.2.1 = tx_sub cs (sA w9) (eA w9)) ∧ h = h1)) [.ref y, .int (nI m9), .int (nI pe), .int (nI w9), .int (pd_b mb)].toArray s rm_Mod_isThisW.cells rm_Mod_isThisW.slots (fun q => G.2.1 ≤ q)) (F0 m 136 ls []) := by
  have hx := X.1
  have hb := X.2.1
  have hz_y := hMO.2.1
  have hy0 : h y = some (20, .inr (10, [.ref (ad 0), .ref (ad 1), .ref (ad 2), .int (iv 3), .int (iv 4), .int (iv 5), .ref (ad 6), .ref (ad 7), .ref (ad 8), .ref (ad 9), .ref (ad 10), .ref (ad 11), .int (iv 12), .ref (ad 13), .ref (ad 14), .ref (ad 15), .ref (ad 16), .ref (ad 17), .ref (ad 18), .ref (ad 19), .int (iv 20), .ref (ad 21), .ref (ad 22), .ref (ad 23), .ref (ad 24), .ref (ad 25), .ref (ad 26), .ref (ad 27), .ref (ad 28), .int (iv 29), .ref (ad 30), .ref (ad 31), .int (iv 32), .int (iv 33), .int (iv 34), .int (iv 35), .long tl, .int (iv 37), .int (iv 38), .int (iv 39), .int (iv 40), .ref (ad 41), .ref (ad 42), .int (iv 43)])) := hMO.1
  have ha0 : h (ad 0) = some (30, .inl (.int, 60, .inl (fv 0))) := (hMO.2.2 0 (by decide)).1
  have ha1 : h (ad 1) = some (31, .inl (.int, 40, .inl (fv 1))) := (hMO.2.2 1 (by decide)).1
  have ha2 : h (ad 2) = some (32, .inl (.int, 40, .inl (fv 2))) := (hMO.2.2 2 (by decide)).1
  have ha15 : h (ad 15) = some (45, .inl (.int, 288, .inl (fv 15))) := (hMO.2.2 15 (by decide)).1
  have ha16 : h (ad 16) = some (46, .inl (.int, 24, .inl (fv 16))) := (hMO.2.2 16 (by decide)).1
  have ha17 : h (ad 17) = some (47, .inl (.int, 1440, .inl (fv 17))) := (hMO.2.2 17 (by decide)).1
  have ha18 : h (ad 18) = some (48, .inl (.int, 24, .inl (fv 18))) := (hMO.2.2 18 (by decide)).1
  have ha19 : h (ad 19) = some (49, .inl (.boolean, 24, .inl (fv 19))) := (hMO.2.2 19 (by decide)).1
  obtain ⟨hiv3, hln, hl60, hlc⟩ := id hL
  obtain ⟨hiv20, hk24, hMm⟩ := id hM
  obtain ⟨mo1, mo2, mo3, mo4, mo5, mo6, mo7, mo8, mo9, mo10, mo11, mo12, mo13⟩ := hMm m9 hm9
  have hw31 := hW.1
  obtain ⟨hws, hwe, hwl, hwc⟩ := hW.2 w9 hw9
  intro kk9
  induction kk9 with
  | zero => intros; omega
  | succ kk9 ih =>
    intro k9 sm hp1 hk9 hsm hns hmu H locs w ls hl
    refine lv_iload hx hb d_p15m21_136 (lv_at hl 0 rfl) ?_
    refine lv_aload_n hx hb d_p15m21_138 rfl (lv_at hl 2 rfl) ?_
    refine pd_get X w hy0 rfl 18 (by decide) mT_1157 rfl rfl d_p15m21_139 ?_
    refine lv_iload_n hx hb d_p15m21_142 rfl (lv_at hl 3 rfl) ?_
    refine pd_iald X w ha18 (by omega) (by omega) d_p15m21_143 ?_
    refine pd_top (v' := .int (nI ((M m9).2.2.1.length))) (congrArg Value.int mo9) ?_
    refine pd_jge (tgt := 194) hx hb d_p15m21_144 (by decide) (by omega) (by omega) (fun q1 => ?_) (fun q1 => ?_)
    · -- taken: 194
      rcases Bool.eq_false_or_eq_true sm with q2 | q2
      · -- True
        rw [q2] at hl
        have hl : lv_has ls 7 [(6, .int (nI k9)), (5, .int (nI 1)), (0, .ref y), (1, .int (nI m9)), (2, .int (nI pe)), (4, .int (pd_b mb)), (3, .int (nI w9))] := hl
        refine lv_iload hx hb d_p15m21_194 (lv_at hl 1 rfl) ?_
        refine W.eq (g2 := F0 m 196 ls [.int (pd_b true)]) rfl ?_
        exact pd_zret (v := true) X w ⟨(decide_eq_true ⟨hp1, tx_eq_at hwc (hsm q2).1 (fun t ht => (hsm q2).2 t (by have z9 := (hsm q2).1; omega))⟩).symm, rfl⟩ (by decide) (by decide) d_p15m21_196
      · -- False
        rw [q2] at hl
        have hl : lv_has ls 7 [(6, .int (nI k9)), (5, .int (nI 0)), (0, .ref y), (1, .int (nI m9)), (2, .int (nI pe)), (4, .int (pd_b mb)), (3, .int (nI w9))] := hl
        refine lv_iload hx hb d_p15m21_194 (lv_at hl 1 rfl) ?_
        refine W.eq (g2 := F0 m 196 ls [.int (pd_b false)]) rfl ?_
        exact pd_zret (v := false) X w ⟨(decide_eq_false (fun z => hns q2 z.2)).symm, rfl⟩ (by decide) (by decide) d_p15m21_196
    · -- not taken: 147
      refine lv_iload hx hb d_p15m21_147 (lv_at hl 1 rfl) ?_
      refine pd_beq (tgt := 194) hx hb d_p15m21_149 (by decide) (fun q3 => ?_) (fun q3 => ?_)
      · -- taken: 194
        rw [q3] at hl
        have hl : lv_has ls 7 [(6, .int (nI k9)), (5, .int (nI 0)), (0, .ref y), (1, .int (nI m9)), (2, .int (nI pe)), (4, .int (pd_b mb)), (3, .int (nI w9))] := hl
        refine lv_iload hx hb d_p15m21_194 (lv_at hl 1 rfl) ?_
        refine W.eq (g2 := F0 m 196 ls [.int (pd_b false)]) rfl ?_
        exact pd_zret (v := false) X w ⟨(decide_eq_false (fun z => hns q3 z.2)).symm, rfl⟩ (by decide) (by decide) d_p15m21_196
      · -- not taken: 152
        have hq := hsm q3
        refine lv_aload_n hx hb d_p15m21_152 rfl (lv_at hl 2 rfl) ?_
        refine pd_get X w hy0 rfl 17 (by decide) mT_1156 rfl rfl d_p15m21_153 ?_
        refine lv_bipush (v := nI 60) hx hb d_p15m21_156 (by decide) ?_
        refine lv_iload_n hx hb d_p15m21_158 rfl (lv_at hl 3 rfl) ?_
        refine pd_imul hx hb d_p15m21_159 ?_
        refine lv_iload hx hb d_p15m21_160 (lv_at hl 0 rfl) ?_
        refine pd_iadd hx hb d_p15m21_162 ?_
        refine pd_iald X w ha17 (by omega) (by omega) d_p15m21_163 ?_
        refine pd_top (v' := .int (nI ((M m9).2.2.1.getD k9 0))) (congrArg Value.int (mo11 k9 (by omega))) ?_
        have := tx_lt mo12 k9
        refine lv_aload_n hx hb d_p15m21_164 rfl (lv_at hl 2 rfl) ?_
        refine pd_get X w hy0 rfl 0 (by decide) mT_1139 rfl rfl d_p15m21_165 ?_
        refine lv_aload_n hx hb d_p15m21_168 rfl (lv_at hl 2 rfl) ?_
        refine pd_get X w hy0 rfl 1 (by decide) mT_1140 rfl rfl d_p15m21_169 ?_
        refine lv_iload_n hx hb d_p15m21_172 rfl (lv_at hl 6 rfl) ?_
        refine pd_iald X w ha1 (by omega) (by omega) d_p15m21_173 ?_
        refine pd_top (v' := .int (nI (sA w9))) (congrArg Value.int hws) ?_
        refine lv_iload hx hb d_p15m21_174 (lv_at hl 0 rfl) ?_
        refine pd_iadd hx hb d_p15m21_176 ?_
        refine pd_iald X w ha0 (by omega) (by omega) d_p15m21_177 ?_
        refine pd_top (v' := .int (nI (cs.getD ((sA w9) + k9) 0))) (congrArg Value.int (hln _ (by omega))) ?_
        have := tx_lt hlc ((sA w9) + k9)
        refine pd_jne (tgt := 185) hx hb d_p15m21_178 (by decide) (by omega) (by omega) (fun q4 => ?_) (fun q4 => ?_)
        · -- taken: 185
          refine lv_iconst (v := nI 0) hx hb d_p15m21_185 (by decide) ?_
          refine lv_istore (lv' := [(5, .int (nI 0)), (6, .int (nI k9)), (0, .ref y), (1, .int (nI m9)), (2, .int (nI pe)), (4, .int (pd_b mb)), (3, .int (nI w9))]) hx hb d_p15m21_186 hl (by decide) rfl (fun ls hl => ?_)
          refine pd_iinc (k := 1) (d := 1) (lv' := [(6, .int (nI (k9 + 1))), (5, .int (nI 0)), (0, .ref y), (1, .int (nI m9)), (2, .int (nI pe)), (4, .int (pd_b mb)), (3, .int (nI w9))]) hx hb d_p15m21_188 (by decide) hl rfl (by decide) rfl (fun ls hl => ?_)
          refine lv_goto (tgt := 136) hx hb d_p15m21_191 (by decide) ?_
          exact ih (k9 + 1) false (hp1) (by omega) (fun z => by cases z) (fun _ => tx_ne_at (k := k9) (by omega) (by omega)) (by omega) _ _ w ls (lv_sub hl [0, 1, 2, 3, 4, 5, 6] rfl)
        · -- not taken: 181
          refine lv_iconst (v := nI 1) hx hb d_p15m21_181 (by decide) ?_
          refine lv_goto (tgt := 186) hx hb d_p15m21_182 (by decide) ?_
          refine lv_istore (lv' := [(5, .int (nI 1)), (6, .int (nI k9)), (0, .ref y), (1, .int (nI m9)), (2, .int (nI pe)), (4, .int (pd_b mb)), (3, .int (nI w9))]) hx hb d_p15m21_186 hl (by decide) rfl (fun ls hl => ?_)
          refine pd_iinc (k := 1) (d := 1) (lv' := [(6, .int (nI (k9 + 1))), (5, .int (nI 1)), (0, .ref y), (1, .int (nI m9)), (2, .int (nI pe)), (4, .int (pd_b mb)), (3, .int (nI w9))]) hx hb d_p15m21_188 (by decide) hl rfl (by decide) rfl (fun ls hl => ?_)
          refine lv_goto (tgt := 136) hx hb d_p15m21_191 (by decide) ?_
          exact ih (k9 + 1) true (hp1) (by omega) (fun _ => ⟨hq.1, fun t ht => by by_cases e9 : t = k9; subst e9; omega; exact hq.2 t (by omega)⟩) (fun z => by cases z) (by omega) _ _ w ls (lv_sub hl [0, 1, 2, 3, 4, 5, 6] rfl)
set_option maxHeartbeats 4000000 in
set_option maxRecDepth 100000 in
theorem lp_Mod_isThisW_36 (l : Launch) (G : pd_G) (h : pd_H) {y : Nat} {ad : Nat → Nat} {fv : Nat → Nat → Int32} {iv : Nat → Int32} {tl : Int64} {cs : List Nat} {n : Nat} {k : Nat} {M : Nat → pd_mr} {m9 pe tf : Nat} {mb : Bool} {nw w9 : Nat} {sA eA : Nat → Nat} (hMO : pd_MO G h y ad fv iv tl) (hL : gm_L fv iv cs) (hM : gm_M fv iv n k M) (hm9 : m9 < k) (hiv40 : iv 40 = nI tf) (htf : tf ≤ pe) (hpe : pe ≤ cs.length) (hW : gm_W fv cs nw sA eA) (hw9 : w9 < nw) {p : Program} {e : Env} {s : State} {m : MethodId} {below : List Frame} {meth : Method} {c : Code} (X : pd_B p s m [.ref y, .int (nI m9), .int (nI pe), .int (nI w9), .int (pd_b mb)].toArray meth c G y_Mod_isThisW.cls prog_15_method_21_code 7 (some .boolean)) (hmn : meth.name = y_Mod_isThisW.name) :
    ∀ (kk9 : Nat) (k9 : Nat) (sm : Bool), (k9 ≤ (M m9).2.1.length) → (sm = true → gr_ism (M m9).2.2.1 = mb ∧ (M m9).2.1.length = pe - tf ∧ ∀ t, t < k9 → (M m9).2.1.getD t 0 = cs.getD (tf + t) 0) → (sm = false → ¬ (gr_ism (M m9).2.2.1 = mb ∧ (M m9).2.1 = tx_sub cs tf pe)) → 100 - k9 < kk9 → ∀ (H : Heap) (locs : List Loc), pd_w G s H locs h → ∀ ls : Array Slot, lv_has ls 7 [(6, .int (nI k9)), (5, .int (pd_b sm)), (0, .ref y), (1, .int (nI m9)), (2, .int (nI pe)), (4, .int (pd_b mb)), (3, .int (nI w9))] → W p l e rm_Mod_isThisW s m [.ref y, .int (nI m9), .int (nI pe), .int (nI w9), .int (pd_b mb)].toArray below meth c H locs 0 0 (MQ below (pd_Q G pd_vb (fun r h1 => r = decide ((gr_ism (M m9).2.2.1 = mb ∧ (M m9).2.1 = tx_sub cs tf pe) ∧ (M m9).2.2.1 = tx_sub cs (sA w9) (eA w9)) ∧ h = h1)) [.ref y, .int (nI m9), .int (nI pe), .int (nI w9), .int (pd_b mb)].toArray s rm_Mod_isThisW.cells rm_Mod_isThisW.slots (fun q => G.2.1 ≤ q)) (F0 m 36 ls []) := by
  have hx := X.1
  have hb := X.2.1
  have hz_y := hMO.2.1
  have hy0 : h y = some (20, .inr (10, [.ref (ad 0), .ref (ad 1), .ref (ad 2), .int (iv 3), .int (iv 4), .int (iv 5), .ref (ad 6), .ref (ad 7), .ref (ad 8), .ref (ad 9), .ref (ad 10), .ref (ad 11), .int (iv 12), .ref (ad 13), .ref (ad 14), .ref (ad 15), .ref (ad 16), .ref (ad 17), .ref (ad 18), .ref (ad 19), .int (iv 20), .ref (ad 21), .ref (ad 22), .ref (ad 23), .ref (ad 24), .ref (ad 25), .ref (ad 26), .ref (ad 27), .ref (ad 28), .int (iv 29), .ref (ad 30), .ref (ad 31), .int (iv 32), .int (iv 33), .int (iv 34), .int (iv 35), .long tl, .int (iv 37), .int (iv 38), .int (iv 39), .int (iv 40), .ref (ad 41), .ref (ad 42), .int (iv 43)])) := hMO.1
  have ha0 : h (ad 0) = some (30, .inl (.int, 60, .inl (fv 0))) := (hMO.2.2 0 (by decide)).1
  have ha1 : h (ad 1) = some (31, .inl (.int, 40, .inl (fv 1))) := (hMO.2.2 1 (by decide)).1
  have ha2 : h (ad 2) = some (32, .inl (.int, 40, .inl (fv 2))) := (hMO.2.2 2 (by decide)).1
  have ha15 : h (ad 15) = some (45, .inl (.int, 288, .inl (fv 15))) := (hMO.2.2 15 (by decide)).1
  have ha16 : h (ad 16) = some (46, .inl (.int, 24, .inl (fv 16))) := (hMO.2.2 16 (by decide)).1
  have ha17 : h (ad 17) = some (47, .inl (.int, 1440, .inl (fv 17))) := (hMO.2.2 17 (by decide)).1
  have ha18 : h (ad 18) = some (48, .inl (.int, 24, .inl (fv 18))) := (hMO.2.2 18 (by decide)).1
  have ha19 : h (ad 19) = some (49, .inl (.boolean, 24, .inl (fv 19))) := (hMO.2.2 19 (by decide)).1
  obtain ⟨hiv3, hln, hl60, hlc⟩ := id hL
  obtain ⟨hiv20, hk24, hMm⟩ := id hM
  obtain ⟨mo1, mo2, mo3, mo4, mo5, mo6, mo7, mo8, mo9, mo10, mo11, mo12, mo13⟩ := hMm m9 hm9
  have hw31 := hW.1
  obtain ⟨hws, hwe, hwl, hwc⟩ := hW.2 w9 hw9
  intro kk9
  induction kk9 with
  | zero => intros; omega
  | succ kk9 ih =>
    intro k9 sm hk9 hsm hns hmu H locs w ls hl
    refine lv_iload hx hb d_p15m21_36 (lv_at hl 0 rfl) ?_
    refine lv_aload_n hx hb d_p15m21_38 rfl (lv_at hl 2 rfl) ?_
    refine pd_get X w hy0 rfl 16 (by decide) mT_1155 rfl rfl d_p15m21_39 ?_
    refine lv_iload_n hx hb d_p15m21_42 rfl (lv_at hl 3 rfl) ?_
    refine pd_iald X w ha16 (by omega) (by omega) d_p15m21_43 ?_
    refine pd_top (v' := .int (nI ((M m9).2.1.length))) (congrArg Value.int mo5) ?_
    refine pd_jge (tgt := 92) hx hb d_p15m21_44 (by decide) (by omega) (by omega) (fun q1 => ?_) (fun q1 => ?_)
    · -- taken: 92
      rcases Bool.eq_false_or_eq_true sm with q2 | q2
      · -- True
        rw [q2] at hl
        have hl : lv_has ls 7 [(6, .int (nI k9)), (5, .int (nI 1)), (0, .ref y), (1, .int (nI m9)), (2, .int (nI pe)), (4, .int (pd_b mb)), (3, .int (nI w9))] := hl
        refine lv_iload hx hb d_p15m21_92 (lv_at hl 1 rfl) ?_
        refine pd_zeq (tgt := 101) hx hb d_p15m21_94 (by decide) (by decide) (fun q => absurd q (by decide)) (fun _ => ?_)
        refine lv_iload_n hx hb d_p15m21_97 rfl (lv_at hl 6 rfl) ?_
        refine pd_zge (tgt := 104) hx hb d_p15m21_98 (by decide) (by omega) ?_
        have hp1 : gr_ism (M m9).2.2.1 = mb ∧ (M m9).2.1 = tx_sub cs tf pe := ⟨(hsm q2).1, tx_eq_at hpe (hsm q2).2.1 (fun t ht => (hsm q2).2.2 t (by have z9 := (hsm q2).2.1; omega))⟩
        refine lv_aload_n hx hb d_p15m21_104 rfl (lv_at hl 2 rfl) ?_
        refine pd_get X w hy0 rfl 18 (by decide) mT_1157 rfl rfl d_p15m21_105 ?_
        refine lv_iload_n hx hb d_p15m21_108 rfl (lv_at hl 3 rfl) ?_
        refine pd_iald X w ha18 (by omega) (by omega) d_p15m21_109 ?_
        refine pd_top (v' := .int (nI ((M m9).2.2.1.length))) (congrArg Value.int mo9) ?_
        refine lv_aload_n hx hb d_p15m21_110 rfl (lv_at hl 2 rfl) ?_
        refine pd_get X w hy0 rfl 2 (by decide) mT_1141 rfl rfl d_p15m21_111 ?_
        refine lv_iload_n hx hb d_p15m21_114 rfl (lv_at hl 6 rfl) ?_
        refine pd_iald X w ha2 (by omega) (by omega) d_p15m21_115 ?_
        refine pd_top (v' := .int (nI (eA w9))) (congrArg Value.int hwe) ?_
        refine lv_aload_n hx hb d_p15m21_116 rfl (lv_at hl 2 rfl) ?_
        refine pd_get X w hy0 rfl 1 (by decide) mT_1140 rfl rfl d_p15m21_117 ?_
        refine lv_iload_n hx hb d_p15m21_120 rfl (lv_at hl 6 rfl) ?_
        refine pd_iald X w ha1 (by omega) (by omega) d_p15m21_121 ?_
        refine pd_top (v' := .int (nI (sA w9))) (congrArg Value.int hws) ?_
        refine pd_isub hx hb d_p15m21_122 (by omega) ?_
        refine pd_jne (tgt := 130) hx hb d_p15m21_123 (by decide) (by omega) (by omega) (fun q5 => ?_) (fun q5 => ?_)
        · -- taken: 130
          refine lv_iconst (v := nI 0) hx hb d_p15m21_130 (by decide) ?_
          refine lv_istore (lv' := [(5, .int (nI 0)), (6, .int (nI k9)), (0, .ref y), (1, .int (nI m9)), (2, .int (nI pe)), (4, .int (pd_b mb)), (3, .int (nI w9))]) hx hb d_p15m21_131 hl (by decide) rfl (fun ls hl => ?_)
          refine lv_iconst (v := nI 0) hx hb d_p15m21_133 (by decide) ?_
          refine lv_istore (lv' := [(6, .int (nI 0)), (5, .int (nI 0)), (0, .ref y), (1, .int (nI m9)), (2, .int (nI pe)), (4, .int (pd_b mb)), (3, .int (nI w9))]) hx hb d_p15m21_134 hl (by decide) rfl (fun ls hl => ?_)
          exact lp_Mod_isThisW_136 l G h hMO hL hM hm9 hiv40 htf hpe hW hw9 X hmn (100 + 1) 0 false (hp1) (by omega) (fun z => by cases z) (fun _ => tx_ne_len hwc (by omega)) (by omega) _ _ w ls (lv_sub hl [0, 1, 2, 3, 4, 5, 6] rfl)
        · -- not taken: 126
          refine lv_iconst (v := nI 1) hx hb d_p15m21_126 (by decide) ?_
          refine lv_goto (tgt := 131) hx hb d_p15m21_127 (by decide) ?_
          refine lv_istore (lv' := [(5, .int (nI 1)), (6, .int (nI k9)), (0, .ref y), (1, .int (nI m9)), (2, .int (nI pe)), (4, .int (pd_b mb)), (3, .int (nI w9))]) hx hb d_p15m21_131 hl (by decide) rfl (fun ls hl => ?_)
          refine lv_iconst (v := nI 0) hx hb d_p15m21_133 (by decide) ?_
          refine lv_istore (lv' := [(6, .int (nI 0)), (5, .int (nI 1)), (0, .ref y), (1, .int (nI m9)), (2, .int (nI pe)), (4, .int (pd_b mb)), (3, .int (nI w9))]) hx hb d_p15m21_134 hl (by decide) rfl (fun ls hl => ?_)
          exact lp_Mod_isThisW_136 l G h hMO hL hM hm9 hiv40 htf hpe hW hw9 X hmn (100 + 1) 0 true (hp1) (by omega) (fun _ => ⟨by omega, fun t ht => absurd ht (Nat.not_lt_zero t)⟩) (fun z => by cases z) (by omega) _ _ w ls (lv_sub hl [0, 1, 2, 3, 4, 5, 6] rfl)
      · -- False
        rw [q2] at hl
        have hl : lv_has ls 7 [(6, .int (nI k9)), (5, .int (nI 0)), (0, .ref y), (1, .int (nI m9)), (2, .int (nI pe)), (4, .int (pd_b mb)), (3, .int (nI w9))] := hl
        refine lv_iload hx hb d_p15m21_92 (lv_at hl 1 rfl) ?_
        refine pd_zeq (tgt := 101) hx hb d_p15m21_94 (by decide) (by decide) (fun _ => ?_) (fun q => absurd q (by decide))
        refine lv_iload hx hb d_p15m21_101 (lv_at hl 1 rfl) ?_
        refine W.eq (g2 := F0 m 103 ls [.int (pd_b false)]) rfl ?_
        exact pd_zret (v := false) X w ⟨(decide_eq_false (fun z => hns q2 z.1)).symm, rfl⟩ (by decide) (by decide) d_p15m21_103
    · -- not taken: 47
      refine lv_iload hx hb d_p15m21_47 (lv_at hl 1 rfl) ?_
      refine pd_beq (tgt := 92) hx hb d_p15m21_49 (by decide) (fun q7 => ?_) (fun q7 => ?_)
      · -- taken: 92
        rw [q7] at hl
        have hl : lv_has ls 7 [(6, .int (nI k9)), (5, .int (nI 0)), (0, .ref y), (1, .int (nI m9)), (2, .int (nI pe)), (4, .int (pd_b mb)), (3, .int (nI w9))] := hl
        refine lv_iload hx hb d_p15m21_92 (lv_at hl 1 rfl) ?_
        refine pd_zeq (tgt := 101) hx hb d_p15m21_94 (by decide) (by decide) (fun _ => ?_) (fun q => absurd q (by decide))
        refine lv_iload hx hb d_p15m21_101 (lv_at hl 1 rfl) ?_
        refine W.eq (g2 := F0 m 103 ls [.int (pd_b false)]) rfl ?_
        exact pd_zret (v := false) X w ⟨(decide_eq_false (fun z => hns q7 z.1)).symm, rfl⟩ (by decide) (by decide) d_p15m21_103
      · -- not taken: 52
        have hq := hsm q7
        refine lv_aload_n hx hb d_p15m21_52 rfl (lv_at hl 2 rfl) ?_
        refine pd_get X w hy0 rfl 15 (by decide) mT_1154 rfl rfl d_p15m21_53 ?_
        refine lv_bipush (v := nI 12) hx hb d_p15m21_56 (by decide) ?_
        refine lv_iload_n hx hb d_p15m21_58 rfl (lv_at hl 3 rfl) ?_
        refine pd_imul hx hb d_p15m21_59 ?_
        refine lv_iload hx hb d_p15m21_60 (lv_at hl 0 rfl) ?_
        refine pd_iadd hx hb d_p15m21_62 ?_
        refine pd_iald X w ha15 (by omega) (by omega) d_p15m21_63 ?_
        refine pd_top (v' := .int (nI ((M m9).2.1.getD k9 0))) (congrArg Value.int (mo7 k9 (by omega))) ?_
        have := tx_lt mo8 k9
        refine lv_aload_n hx hb d_p15m21_64 rfl (lv_at hl 2 rfl) ?_
        refine pd_get X w hy0 rfl 0 (by decide) mT_1139 rfl rfl d_p15m21_65 ?_
        refine lv_aload_n hx hb d_p15m21_68 rfl (lv_at hl 2 rfl) ?_
        refine pd_get X w hy0 rfl 40 (by decide) mT_1179 rfl rfl d_p15m21_69 ?_
        refine pd_top (v' := .int (nI tf)) (congrArg Value.int hiv40) ?_
        refine lv_iload hx hb d_p15m21_72 (lv_at hl 0 rfl) ?_
        refine pd_iadd hx hb d_p15m21_74 ?_
        refine pd_iald X w ha0 (by omega) (by omega) d_p15m21_75 ?_
        refine pd_top (v' := .int (nI (cs.getD (tf + k9) 0))) (congrArg Value.int (hln _ (by omega))) ?_
        have := tx_lt hlc (tf + k9)
        refine pd_jne (tgt := 83) hx hb d_p15m21_76 (by decide) (by omega) (by omega) (fun q9 => ?_) (fun q9 => ?_)
        · -- taken: 83
          refine lv_iconst (v := nI 0) hx hb d_p15m21_83 (by decide) ?_
          refine lv_istore (lv' := [(5, .int (nI 0)), (6, .int (nI k9)), (0, .ref y), (1, .int (nI m9)), (2, .int (nI pe)), (4, .int (pd_b mb)), (3, .int (nI w9))]) hx hb d_p15m21_84 hl (by decide) rfl (fun ls hl => ?_)
          refine pd_iinc (k := 1) (d := 1) (lv' := [(6, .int (nI (k9 + 1))), (5, .int (nI 0)), (0, .ref y), (1, .int (nI m9)), (2, .int (nI pe)), (4, .int (pd_b mb)), (3, .int (nI w9))]) hx hb d_p15m21_86 (by decide) hl rfl (by decide) rfl (fun ls hl => ?_)
          refine lv_goto (tgt := 36) hx hb d_p15m21_89 (by decide) ?_
          exact ih (k9 + 1) false (by omega) (fun z => by cases z) (fun _ z => tx_ne_at (k := k9) (by omega) (by omega) z.2) (by omega) _ _ w ls (lv_sub hl [0, 1, 2, 3, 4, 5, 6] rfl)
        · -- not taken: 79
          refine lv_iconst (v := nI 1) hx hb d_p15m21_79 (by decide) ?_
          refine lv_goto (tgt := 84) hx hb d_p15m21_80 (by decide) ?_
          refine lv_istore (lv' := [(5, .int (nI 1)), (6, .int (nI k9)), (0, .ref y), (1, .int (nI m9)), (2, .int (nI pe)), (4, .int (pd_b mb)), (3, .int (nI w9))]) hx hb d_p15m21_84 hl (by decide) rfl (fun ls hl => ?_)
          refine pd_iinc (k := 1) (d := 1) (lv' := [(6, .int (nI (k9 + 1))), (5, .int (nI 1)), (0, .ref y), (1, .int (nI m9)), (2, .int (nI pe)), (4, .int (pd_b mb)), (3, .int (nI w9))]) hx hb d_p15m21_86 (by decide) hl rfl (by decide) rfl (fun ls hl => ?_)
          refine lv_goto (tgt := 36) hx hb d_p15m21_89 (by decide) ?_
          exact ih (k9 + 1) true (by omega) (fun _ => ⟨hq.1, hq.2.1, fun t ht => by by_cases e9 : t = k9; subst e9; omega; exact hq.2.2 t (by omega)⟩) (fun z => by cases z) (by omega) _ _ w ls (lv_sub hl [0, 1, 2, 3, 4, 5, 6] rfl)
set_option maxHeartbeats 4000000 in
set_option maxRecDepth 100000 in
theorem c_Mod_isThisW (l : Launch) (G : pd_G) (h : pd_H) {y : Nat} {ad : Nat → Nat} {fv : Nat → Nat → Int32} {iv : Nat → Int32} {tl : Int64} {cs : List Nat} {n : Nat} {k : Nat} {M : Nat → pd_mr} {m9 pe tf : Nat} {mb : Bool} {nw w9 : Nat} {sA eA : Nat → Nat} (hMO : pd_MO G h y ad fv iv tl) (hL : gm_L fv iv cs) (hM : gm_M fv iv n k M) (hm9 : m9 < k) (hiv40 : iv 40 = nI tf) (htf : tf ≤ pe) (hpe : pe ≤ cs.length) (hW : gm_W fv cs nw sA eA) (hw9 : w9 < nw) : pd_M l y_Mod_isThisW prog_15_method_21_code 7 (some .boolean) rm_Mod_isThisW G h [.ref y, .int (nI m9), .int (nI pe), .int (nI w9), .int (pd_b mb)] pd_vb (fun r h1 => r = decide ((gr_ism (M m9).2.2.1 = mb ∧ (M m9).2.1 = tx_sub cs tf pe) ∧ (M m9).2.2.1 = tx_sub cs (sA w9) (eA w9)) ∧ h = h1) := by
  refine pd_M.of (by decide) (Nat.le_of_ble_eq_true rfl) ?_
  intro p e s m below meth c X hmn w ls hl
  have hx := X.1
  have hb := X.2.1
  have hl : lv_has ls 7 [(0, .ref y), (1, .int (nI m9)), (2, .int (nI pe)), (3, .int (nI w9)), (4, .int (pd_b mb))] := hl
  have hz_y := hMO.2.1
  have hy0 : h y = some (20, .inr (10, [.ref (ad 0), .ref (ad 1), .ref (ad 2), .int (iv 3), .int (iv 4), .int (iv 5), .ref (ad 6), .ref (ad 7), .ref (ad 8), .ref (ad 9), .ref (ad 10), .ref (ad 11), .int (iv 12), .ref (ad 13), .ref (ad 14), .ref (ad 15), .ref (ad 16), .ref (ad 17), .ref (ad 18), .ref (ad 19), .int (iv 20), .ref (ad 21), .ref (ad 22), .ref (ad 23), .ref (ad 24), .ref (ad 25), .ref (ad 26), .ref (ad 27), .ref (ad 28), .int (iv 29), .ref (ad 30), .ref (ad 31), .int (iv 32), .int (iv 33), .int (iv 34), .int (iv 35), .long tl, .int (iv 37), .int (iv 38), .int (iv 39), .int (iv 40), .ref (ad 41), .ref (ad 42), .int (iv 43)])) := hMO.1
  have ha0 : h (ad 0) = some (30, .inl (.int, 60, .inl (fv 0))) := (hMO.2.2 0 (by decide)).1
  have ha1 : h (ad 1) = some (31, .inl (.int, 40, .inl (fv 1))) := (hMO.2.2 1 (by decide)).1
  have ha2 : h (ad 2) = some (32, .inl (.int, 40, .inl (fv 2))) := (hMO.2.2 2 (by decide)).1
  have ha15 : h (ad 15) = some (45, .inl (.int, 288, .inl (fv 15))) := (hMO.2.2 15 (by decide)).1
  have ha16 : h (ad 16) = some (46, .inl (.int, 24, .inl (fv 16))) := (hMO.2.2 16 (by decide)).1
  have ha17 : h (ad 17) = some (47, .inl (.int, 1440, .inl (fv 17))) := (hMO.2.2 17 (by decide)).1
  have ha18 : h (ad 18) = some (48, .inl (.int, 24, .inl (fv 18))) := (hMO.2.2 18 (by decide)).1
  have ha19 : h (ad 19) = some (49, .inl (.boolean, 24, .inl (fv 19))) := (hMO.2.2 19 (by decide)).1
  obtain ⟨hiv3, hln, hl60, hlc⟩ := id hL
  obtain ⟨hiv20, hk24, hMm⟩ := id hM
  obtain ⟨mo1, mo2, mo3, mo4, mo5, mo6, mo7, mo8, mo9, mo10, mo11, mo12, mo13⟩ := hMm m9 hm9
  have hw31 := hW.1
  obtain ⟨hws, hwe, hwl, hwc⟩ := hW.2 w9 hw9
  refine lv_aload_n hx hb d_p15m21_0 rfl (lv_at hl 0 rfl) ?_
  refine pd_get X w hy0 rfl 19 (by decide) mT_1158 rfl rfl d_p15m21_1 ?_
  refine lv_iload_n hx hb d_p15m21_4 rfl (lv_at hl 1 rfl) ?_
  refine pd_zald X w ha19 (by omega) (by omega) d_p15m21_5 ?_
  refine pd_top (v' := .int (pd_b (gr_ism (M m9).2.2.1))) (congrArg Value.int mo13) ?_
  refine lv_iload hx hb d_p15m21_6 (lv_at hl 4 rfl) ?_
  refine lv_icmp_ne (tgt := 30) hx hb d_p15m21_8 (by decide) (fun q1 => ?_) (fun q1 => ?_)
  · -- taken: 30
    refine lv_iconst (v := nI 0) hx hb d_p15m21_30 (by decide) ?_
    refine lv_istore (lv' := [(5, .int (nI 0)), (0, .ref y), (1, .int (nI m9)), (2, .int (nI pe)), (3, .int (nI w9)), (4, .int (pd_b mb))]) hx hb d_p15m21_31 hl (by decide) rfl (fun ls hl => ?_)
    refine lv_iconst (v := nI 0) hx hb d_p15m21_33 (by decide) ?_
    refine lv_istore (lv' := [(6, .int (nI 0)), (5, .int (nI 0)), (0, .ref y), (1, .int (nI m9)), (2, .int (nI pe)), (3, .int (nI w9)), (4, .int (pd_b mb))]) hx hb d_p15m21_34 hl (by decide) rfl (fun ls hl => ?_)
    exact lp_Mod_isThisW_36 l G h hMO hL hM hm9 hiv40 htf hpe hW hw9 X hmn (100 + 1) 0 false (by omega) (fun z => by cases z) (fun _ z => q1 (by rw [z.1])) (by omega) _ _ w ls (lv_sub hl [0, 1, 2, 3, 4, 6, 5] rfl)
  · -- not taken: 11
    refine lv_aload_n hx hb d_p15m21_11 rfl (lv_at hl 0 rfl) ?_
    refine pd_get X w hy0 rfl 16 (by decide) mT_1155 rfl rfl d_p15m21_12 ?_
    refine lv_iload_n hx hb d_p15m21_15 rfl (lv_at hl 1 rfl) ?_
    refine pd_iald X w ha16 (by omega) (by omega) d_p15m21_16 ?_
    refine pd_top (v' := .int (nI ((M m9).2.1.length))) (congrArg Value.int mo5) ?_
    refine lv_iload_n hx hb d_p15m21_17 rfl (lv_at hl 2 rfl) ?_
    refine lv_aload_n hx hb d_p15m21_18 rfl (lv_at hl 0 rfl) ?_
    refine pd_get X w hy0 rfl 40 (by decide) mT_1179 rfl rfl d_p15m21_19 ?_
    refine pd_top (v' := .int (nI tf)) (congrArg Value.int hiv40) ?_
    refine pd_isub hx hb d_p15m21_22 (by omega) ?_
    refine pd_jne (tgt := 30) hx hb d_p15m21_23 (by decide) (by omega) (by omega) (fun q2 => ?_) (fun q2 => ?_)
    · -- taken: 30
      refine lv_iconst (v := nI 0) hx hb d_p15m21_30 (by decide) ?_
      refine lv_istore (lv' := [(5, .int (nI 0)), (0, .ref y), (1, .int (nI m9)), (2, .int (nI pe)), (3, .int (nI w9)), (4, .int (pd_b mb))]) hx hb d_p15m21_31 hl (by decide) rfl (fun ls hl => ?_)
      refine lv_iconst (v := nI 0) hx hb d_p15m21_33 (by decide) ?_
      refine lv_istore (lv' := [(6, .int (nI 0)), (5, .int (nI 0)), (0, .ref y), (1, .int (nI m9)), (2, .int (nI pe)), (3, .int (nI w9)), (4, .int (pd_b mb))]) hx hb d_p15m21_34 hl (by decide) rfl (fun ls hl => ?_)
      exact lp_Mod_isThisW_36 l G h hMO hL hM hm9 hiv40 htf hpe hW hw9 X hmn (100 + 1) 0 false (by omega) (fun z => by cases z) (fun _ z => tx_ne_len hpe (by omega) z.2) (by omega) _ _ w ls (lv_sub hl [0, 1, 2, 3, 4, 6, 5] rfl)
    · -- not taken: 26
      refine lv_iconst (v := nI 1) hx hb d_p15m21_26 (by decide) ?_
      refine lv_goto (tgt := 31) hx hb d_p15m21_27 (by decide) ?_
      refine lv_istore (lv' := [(5, .int (nI 1)), (0, .ref y), (1, .int (nI m9)), (2, .int (nI pe)), (3, .int (nI w9)), (4, .int (pd_b mb))]) hx hb d_p15m21_31 hl (by decide) rfl (fun ls hl => ?_)
      refine lv_iconst (v := nI 0) hx hb d_p15m21_33 (by decide) ?_
      refine lv_istore (lv' := [(6, .int (nI 0)), (5, .int (nI 1)), (0, .ref y), (1, .int (nI m9)), (2, .int (nI pe)), (3, .int (nI w9)), (4, .int (pd_b mb))]) hx hb d_p15m21_34 hl (by decide) rfl (fun ls hl => ?_)
      exact lp_Mod_isThisW_36 l G h hMO hL hM hm9 hiv40 htf hpe hW hw9 X hmn (100 + 1) 0 true (by omega) (fun _ => ⟨pd_b_inj q1, by omega, fun t ht => absurd ht (Nat.not_lt_zero t)⟩) (fun z => by cases z) (by omega) _ _ w ls (lv_sub hl [0, 1, 2, 3, 4, 6, 5] rfl)
abbrev y_Mod_isThisN : MethodName := ⟨"PolicyDeskModel", "isThis", "(IIIZ)Z"⟩
theorem ok_Mod_isThisN : pd_ok y_Mod_isThisN prog_15_method_21_code 7 (some .boolean) 4 := ⟨mT_1365, mT_21, by decide, by decide +kernel⟩
abbrev rm_Mod_isThisN : Room := { frames := 0, cells := 0, slots := 0, locals := 0 }
set_option maxHeartbeats 4000000 in
set_option maxRecDepth 100000 in
theorem lp_Mod_isThisN_36 (l : Launch) (G : pd_G) (h : pd_H) {y : Nat} {ad : Nat → Nat} {fv : Nat → Nat → Int32} {iv : Nat → Int32} {tl : Int64} {cs : List Nat} {n : Nat} {k : Nat} {M : Nat → pd_mr} {m9 pe tf : Nat} {mb : Bool} (hMO : pd_MO G h y ad fv iv tl) (hL : gm_L fv iv cs) (hM : gm_M fv iv n k M) (hm9 : m9 < k) (hiv40 : iv 40 = nI tf) (htf : tf ≤ pe) (hpe : pe ≤ cs.length) {p : Program} {e : Env} {s : State} {m : MethodId} {below : List Frame} {meth : Method} {c : Code} (X : pd_B p s m [.ref y, .int (nI m9), .int (nI pe), .int (-1), .int (pd_b mb)].toArray meth c G y_Mod_isThisN.cls prog_15_method_21_code 7 (some .boolean)) (hmn : meth.name = y_Mod_isThisN.name) :
    ∀ (kk9 : Nat) (k9 : Nat) (sm : Bool), (k9 ≤ (M m9).2.1.length) → (sm = true → gr_ism (M m9).2.2.1 = mb ∧ (M m9).2.1.length = pe - tf ∧ ∀ t, t < k9 → (M m9).2.1.getD t 0 = cs.getD (tf + t) 0) → (sm = false → ¬ (gr_ism (M m9).2.2.1 = mb ∧ (M m9).2.1 = tx_sub cs tf pe)) → 100 - k9 < kk9 → ∀ (H : Heap) (locs : List Loc), pd_w G s H locs h → ∀ ls : Array Slot, lv_has ls 7 [(6, .int (nI k9)), (5, .int (pd_b sm)), (0, .ref y), (1, .int (nI m9)), (2, .int (nI pe)), (4, .int (pd_b mb)), (3, .int (-1))] → W p l e rm_Mod_isThisN s m [.ref y, .int (nI m9), .int (nI pe), .int (-1), .int (pd_b mb)].toArray below meth c H locs 0 0 (MQ below (pd_Q G pd_vb (fun r h1 => r = decide (gr_ism (M m9).2.2.1 = mb ∧ (M m9).2.1 = tx_sub cs tf pe) ∧ h = h1)) [.ref y, .int (nI m9), .int (nI pe), .int (-1), .int (pd_b mb)].toArray s rm_Mod_isThisN.cells rm_Mod_isThisN.slots (fun q => G.2.1 ≤ q)) (F0 m 36 ls []) := by
  have hx := X.1
  have hb := X.2.1
  have hz_y := hMO.2.1
  have hy0 : h y = some (20, .inr (10, [.ref (ad 0), .ref (ad 1), .ref (ad 2), .int (iv 3), .int (iv 4), .int (iv 5), .ref (ad 6), .ref (ad 7), .ref (ad 8), .ref (ad 9), .ref (ad 10), .ref (ad 11), .int (iv 12), .ref (ad 13), .ref (ad 14), .ref (ad 15), .ref (ad 16), .ref (ad 17), .ref (ad 18), .ref (ad 19), .int (iv 20), .ref (ad 21), .ref (ad 22), .ref (ad 23), .ref (ad 24), .ref (ad 25), .ref (ad 26), .ref (ad 27), .ref (ad 28), .int (iv 29), .ref (ad 30), .ref (ad 31), .int (iv 32), .int (iv 33), .int (iv 34), .int (iv 35), .long tl, .int (iv 37), .int (iv 38), .int (iv 39), .int (iv 40), .ref (ad 41), .ref (ad 42), .int (iv 43)])) := hMO.1
  have ha0 : h (ad 0) = some (30, .inl (.int, 60, .inl (fv 0))) := (hMO.2.2 0 (by decide)).1
  have ha15 : h (ad 15) = some (45, .inl (.int, 288, .inl (fv 15))) := (hMO.2.2 15 (by decide)).1
  have ha16 : h (ad 16) = some (46, .inl (.int, 24, .inl (fv 16))) := (hMO.2.2 16 (by decide)).1
  have ha19 : h (ad 19) = some (49, .inl (.boolean, 24, .inl (fv 19))) := (hMO.2.2 19 (by decide)).1
  obtain ⟨hiv3, hln, hl60, hlc⟩ := id hL
  obtain ⟨hiv20, hk24, hMm⟩ := id hM
  obtain ⟨mo1, mo2, mo3, mo4, mo5, mo6, mo7, mo8, mo9, mo10, mo11, mo12, mo13⟩ := hMm m9 hm9
  intro kk9
  induction kk9 with
  | zero => intros; omega
  | succ kk9 ih =>
    intro k9 sm hk9 hsm hns hmu H locs w ls hl
    refine lv_iload hx hb d_p15m21_36 (lv_at hl 0 rfl) ?_
    refine lv_aload_n hx hb d_p15m21_38 rfl (lv_at hl 2 rfl) ?_
    refine pd_get X w hy0 rfl 16 (by decide) mT_1155 rfl rfl d_p15m21_39 ?_
    refine lv_iload_n hx hb d_p15m21_42 rfl (lv_at hl 3 rfl) ?_
    refine pd_iald X w ha16 (by omega) (by omega) d_p15m21_43 ?_
    refine pd_top (v' := .int (nI ((M m9).2.1.length))) (congrArg Value.int mo5) ?_
    refine pd_jge (tgt := 92) hx hb d_p15m21_44 (by decide) (by omega) (by omega) (fun q1 => ?_) (fun q1 => ?_)
    · -- taken: 92
      rcases Bool.eq_false_or_eq_true sm with q2 | q2
      · -- True
        rw [q2] at hl
        have hl : lv_has ls 7 [(6, .int (nI k9)), (5, .int (nI 1)), (0, .ref y), (1, .int (nI m9)), (2, .int (nI pe)), (4, .int (pd_b mb)), (3, .int (-1))] := hl
        refine lv_iload hx hb d_p15m21_92 (lv_at hl 1 rfl) ?_
        refine pd_zeq (tgt := 101) hx hb d_p15m21_94 (by decide) (by decide) (fun q => absurd q (by decide)) (fun _ => ?_)
        refine lv_iload_n hx hb d_p15m21_97 rfl (lv_at hl 6 rfl) ?_
        refine lv_if_ge (tgt := 104) hx hb d_p15m21_98 (by decide) (fun q => absurd q (by decide)) (fun _ => ?_)
        refine lv_iload hx hb d_p15m21_101 (lv_at hl 1 rfl) ?_
        refine W.eq (g2 := F0 m 103 ls [.int (pd_b true)]) rfl ?_
        exact pd_zret (v := true) X w ⟨(decide_eq_true ⟨(hsm q2).1, tx_eq_at hpe (hsm q2).2.1 (fun t ht => (hsm q2).2.2 t (by have z9 := (hsm q2).2.1; omega))⟩).symm, rfl⟩ (by decide) (by decide) d_p15m21_103
      · -- False
        rw [q2] at hl
        have hl : lv_has ls 7 [(6, .int (nI k9)), (5, .int (nI 0)), (0, .ref y), (1, .int (nI m9)), (2, .int (nI pe)), (4, .int (pd_b mb)), (3, .int (-1))] := hl
        refine lv_iload hx hb d_p15m21_92 (lv_at hl 1 rfl) ?_
        refine pd_zeq (tgt := 101) hx hb d_p15m21_94 (by decide) (by decide) (fun _ => ?_) (fun q => absurd q (by decide))
        refine lv_iload hx hb d_p15m21_101 (lv_at hl 1 rfl) ?_
        refine W.eq (g2 := F0 m 103 ls [.int (pd_b false)]) rfl ?_
        exact pd_zret (v := false) X w ⟨(decide_eq_false (hns q2)).symm, rfl⟩ (by decide) (by decide) d_p15m21_103
    · -- not taken: 47
      refine lv_iload hx hb d_p15m21_47 (lv_at hl 1 rfl) ?_
      refine pd_beq (tgt := 92) hx hb d_p15m21_49 (by decide) (fun q6 => ?_) (fun q6 => ?_)
      · -- taken: 92
        rw [q6] at hl
        have hl : lv_has ls 7 [(6, .int (nI k9)), (5, .int (nI 0)), (0, .ref y), (1, .int (nI m9)), (2, .int (nI pe)), (4, .int (pd_b mb)), (3, .int (-1))] := hl
        refine lv_iload hx hb d_p15m21_92 (lv_at hl 1 rfl) ?_
        refine pd_zeq (tgt := 101) hx hb d_p15m21_94 (by decide) (by decide) (fun _ => ?_) (fun q => absurd q (by decide))
        refine lv_iload hx hb d_p15m21_101 (lv_at hl 1 rfl) ?_
        refine W.eq (g2 := F0 m 103 ls [.int (pd_b false)]) rfl ?_
        exact pd_zret (v := false) X w ⟨(decide_eq_false (hns q6)).symm, rfl⟩ (by decide) (by decide) d_p15m21_103
      · -- not taken: 52
        have hq := hsm q6
        refine lv_aload_n hx hb d_p15m21_52 rfl (lv_at hl 2 rfl) ?_
        refine pd_get X w hy0 rfl 15 (by decide) mT_1154 rfl rfl d_p15m21_53 ?_
        refine lv_bipush (v := nI 12) hx hb d_p15m21_56 (by decide) ?_
        refine lv_iload_n hx hb d_p15m21_58 rfl (lv_at hl 3 rfl) ?_
        refine pd_imul hx hb d_p15m21_59 ?_
        refine lv_iload hx hb d_p15m21_60 (lv_at hl 0 rfl) ?_
        refine pd_iadd hx hb d_p15m21_62 ?_
        refine pd_iald X w ha15 (by omega) (by omega) d_p15m21_63 ?_
        refine pd_top (v' := .int (nI ((M m9).2.1.getD k9 0))) (congrArg Value.int (mo7 k9 (by omega))) ?_
        have := tx_lt mo8 k9
        refine lv_aload_n hx hb d_p15m21_64 rfl (lv_at hl 2 rfl) ?_
        refine pd_get X w hy0 rfl 0 (by decide) mT_1139 rfl rfl d_p15m21_65 ?_
        refine lv_aload_n hx hb d_p15m21_68 rfl (lv_at hl 2 rfl) ?_
        refine pd_get X w hy0 rfl 40 (by decide) mT_1179 rfl rfl d_p15m21_69 ?_
        refine pd_top (v' := .int (nI tf)) (congrArg Value.int hiv40) ?_
        refine lv_iload hx hb d_p15m21_72 (lv_at hl 0 rfl) ?_
        refine pd_iadd hx hb d_p15m21_74 ?_
        refine pd_iald X w ha0 (by omega) (by omega) d_p15m21_75 ?_
        refine pd_top (v' := .int (nI (cs.getD (tf + k9) 0))) (congrArg Value.int (hln _ (by omega))) ?_
        have := tx_lt hlc (tf + k9)
        refine pd_jne (tgt := 83) hx hb d_p15m21_76 (by decide) (by omega) (by omega) (fun q8 => ?_) (fun q8 => ?_)
        · -- taken: 83
          refine lv_iconst (v := nI 0) hx hb d_p15m21_83 (by decide) ?_
          refine lv_istore (lv' := [(5, .int (nI 0)), (6, .int (nI k9)), (0, .ref y), (1, .int (nI m9)), (2, .int (nI pe)), (4, .int (pd_b mb)), (3, .int (-1))]) hx hb d_p15m21_84 hl (by decide) rfl (fun ls hl => ?_)
          refine pd_iinc (k := 1) (d := 1) (lv' := [(6, .int (nI (k9 + 1))), (5, .int (nI 0)), (0, .ref y), (1, .int (nI m9)), (2, .int (nI pe)), (4, .int (pd_b mb)), (3, .int (-1))]) hx hb d_p15m21_86 (by decide) hl rfl (by decide) rfl (fun ls hl => ?_)
          refine lv_goto (tgt := 36) hx hb d_p15m21_89 (by decide) ?_
          exact ih (k9 + 1) false (by omega) (fun z => by cases z) (fun _ z => tx_ne_at (k := k9) (by omega) (by omega) z.2) (by omega) _ _ w ls (lv_sub hl [0, 1, 2, 3, 4, 5, 6] rfl)
        · -- not taken: 79
          refine lv_iconst (v := nI 1) hx hb d_p15m21_79 (by decide) ?_
          refine lv_goto (tgt := 84) hx hb d_p15m21_80 (by decide) ?_
          refine lv_istore (lv' := [(5, .int (nI 1)), (6, .int (nI k9)), (0, .ref y), (1, .int (nI m9)), (2, .int (nI pe)), (4, .int (pd_b mb)), (3, .int (-1))]) hx hb d_p15m21_84 hl (by decide) rfl (fun ls hl => ?_)
          refine pd_iinc (k := 1) (d := 1) (lv' := [(6, .int (nI (k9 + 1))), (5, .int (nI 1)), (0, .ref y), (1, .int (nI m9)), (2, .int (nI pe)), (4, .int (pd_b mb)), (3, .int (-1))]) hx hb d_p15m21_86 (by decide) hl rfl (by decide) rfl (fun ls hl => ?_)
          refine lv_goto (tgt := 36) hx hb d_p15m21_89 (by decide) ?_
          exact ih (k9 + 1) true (by omega) (fun _ => ⟨hq.1, hq.2.1, fun t ht => by by_cases e9 : t = k9; subst e9; omega; exact hq.2.2 t (by omega)⟩) (fun z => by cases z) (by omega) _ _ w ls (lv_sub hl [0, 1, 2, 3, 4, 5, 6] rfl)
set_option maxHeartbeats 4000000 in
set_option maxRecDepth 100000 in
theorem c_Mod_isThisN (l : Launch) (G : pd_G) (h : pd_H) {y : Nat} {ad : Nat → Nat} {fv : Nat → Nat → Int32} {iv : Nat → Int32} {tl : Int64} {cs : List Nat} {n : Nat} {k : Nat} {M : Nat → pd_mr} {m9 pe tf : Nat} {mb : Bool} (hMO : pd_MO G h y ad fv iv tl) (hL : gm_L fv iv cs) (hM : gm_M fv iv n k M) (hm9 : m9 < k) (hiv40 : iv 40 = nI tf) (htf : tf ≤ pe) (hpe : pe ≤ cs.length) : pd_M l y_Mod_isThisN prog_15_method_21_code 7 (some .boolean) rm_Mod_isThisN G h [.ref y, .int (nI m9), .int (nI pe), .int (-1), .int (pd_b mb)] pd_vb (fun r h1 => r = decide (gr_ism (M m9).2.2.1 = mb ∧ (M m9).2.1 = tx_sub cs tf pe) ∧ h = h1) := by
  refine pd_M.of (by decide) (Nat.le_of_ble_eq_true rfl) ?_
  intro p e s m below meth c X hmn w ls hl
  have hx := X.1
  have hb := X.2.1
  have hl : lv_has ls 7 [(0, .ref y), (1, .int (nI m9)), (2, .int (nI pe)), (3, .int (-1)), (4, .int (pd_b mb))] := hl
  have hz_y := hMO.2.1
  have hy0 : h y = some (20, .inr (10, [.ref (ad 0), .ref (ad 1), .ref (ad 2), .int (iv 3), .int (iv 4), .int (iv 5), .ref (ad 6), .ref (ad 7), .ref (ad 8), .ref (ad 9), .ref (ad 10), .ref (ad 11), .int (iv 12), .ref (ad 13), .ref (ad 14), .ref (ad 15), .ref (ad 16), .ref (ad 17), .ref (ad 18), .ref (ad 19), .int (iv 20), .ref (ad 21), .ref (ad 22), .ref (ad 23), .ref (ad 24), .ref (ad 25), .ref (ad 26), .ref (ad 27), .ref (ad 28), .int (iv 29), .ref (ad 30), .ref (ad 31), .int (iv 32), .int (iv 33), .int (iv 34), .int (iv 35), .long tl, .int (iv 37), .int (iv 38), .int (iv 39), .int (iv 40), .ref (ad 41), .ref (ad 42), .int (iv 43)])) := hMO.1
  have ha0 : h (ad 0) = some (30, .inl (.int, 60, .inl (fv 0))) := (hMO.2.2 0 (by decide)).1
  have ha15 : h (ad 15) = some (45, .inl (.int, 288, .inl (fv 15))) := (hMO.2.2 15 (by decide)).1
  have ha16 : h (ad 16) = some (46, .inl (.int, 24, .inl (fv 16))) := (hMO.2.2 16 (by decide)).1
  have ha19 : h (ad 19) = some (49, .inl (.boolean, 24, .inl (fv 19))) := (hMO.2.2 19 (by decide)).1
  obtain ⟨hiv3, hln, hl60, hlc⟩ := id hL
  obtain ⟨hiv20, hk24, hMm⟩ := id hM
  obtain ⟨mo1, mo2, mo3, mo4, mo5, mo6, mo7, mo8, mo9, mo10, mo11, mo12, mo13⟩ := hMm m9 hm9
  refine lv_aload_n hx hb d_p15m21_0 rfl (lv_at hl 0 rfl) ?_
  refine pd_get X w hy0 rfl 19 (by decide) mT_1158 rfl rfl d_p15m21_1 ?_
  refine lv_iload_n hx hb d_p15m21_4 rfl (lv_at hl 1 rfl) ?_
  refine pd_zald X w ha19 (by omega) (by omega) d_p15m21_5 ?_
  refine pd_top (v' := .int (pd_b (gr_ism (M m9).2.2.1))) (congrArg Value.int mo13) ?_
  refine lv_iload hx hb d_p15m21_6 (lv_at hl 4 rfl) ?_
  refine lv_icmp_ne (tgt := 30) hx hb d_p15m21_8 (by decide) (fun q1 => ?_) (fun q1 => ?_)
  · -- taken: 30
    refine lv_iconst (v := nI 0) hx hb d_p15m21_30 (by decide) ?_
    refine lv_istore (lv' := [(5, .int (nI 0)), (0, .ref y), (1, .int (nI m9)), (2, .int (nI pe)), (3, .int (-1)), (4, .int (pd_b mb))]) hx hb d_p15m21_31 hl (by decide) rfl (fun ls hl => ?_)
    refine lv_iconst (v := nI 0) hx hb d_p15m21_33 (by decide) ?_
    refine lv_istore (lv' := [(6, .int (nI 0)), (5, .int (nI 0)), (0, .ref y), (1, .int (nI m9)), (2, .int (nI pe)), (3, .int (-1)), (4, .int (pd_b mb))]) hx hb d_p15m21_34 hl (by decide) rfl (fun ls hl => ?_)
    exact lp_Mod_isThisN_36 l G h hMO hL hM hm9 hiv40 htf hpe X hmn (100 + 1) 0 false (by omega) (fun z => by cases z) (fun _ z => q1 (by rw [z.1])) (by omega) _ _ w ls (lv_sub hl [0, 1, 2, 3, 4, 6, 5] rfl)
  · -- not taken: 11
    refine lv_aload_n hx hb d_p15m21_11 rfl (lv_at hl 0 rfl) ?_
    refine pd_get X w hy0 rfl 16 (by decide) mT_1155 rfl rfl d_p15m21_12 ?_
    refine lv_iload_n hx hb d_p15m21_15 rfl (lv_at hl 1 rfl) ?_
    refine pd_iald X w ha16 (by omega) (by omega) d_p15m21_16 ?_
    refine pd_top (v' := .int (nI ((M m9).2.1.length))) (congrArg Value.int mo5) ?_
    refine lv_iload_n hx hb d_p15m21_17 rfl (lv_at hl 2 rfl) ?_
    refine lv_aload_n hx hb d_p15m21_18 rfl (lv_at hl 0 rfl) ?_
    refine pd_get X w hy0 rfl 40 (by decide) mT_1179 rfl rfl d_p15m21_19 ?_
    refine pd_top (v' := .int (nI tf)) (congrArg Value.int hiv40) ?_
    refine pd_isub hx hb d_p15m21_22 (by omega) ?_
    refine pd_jne (tgt := 30) hx hb d_p15m21_23 (by decide) (by omega) (by omega) (fun q2 => ?_) (fun q2 => ?_)
    · -- taken: 30
      refine lv_iconst (v := nI 0) hx hb d_p15m21_30 (by decide) ?_
      refine lv_istore (lv' := [(5, .int (nI 0)), (0, .ref y), (1, .int (nI m9)), (2, .int (nI pe)), (3, .int (-1)), (4, .int (pd_b mb))]) hx hb d_p15m21_31 hl (by decide) rfl (fun ls hl => ?_)
      refine lv_iconst (v := nI 0) hx hb d_p15m21_33 (by decide) ?_
      refine lv_istore (lv' := [(6, .int (nI 0)), (5, .int (nI 0)), (0, .ref y), (1, .int (nI m9)), (2, .int (nI pe)), (3, .int (-1)), (4, .int (pd_b mb))]) hx hb d_p15m21_34 hl (by decide) rfl (fun ls hl => ?_)
      exact lp_Mod_isThisN_36 l G h hMO hL hM hm9 hiv40 htf hpe X hmn (100 + 1) 0 false (by omega) (fun z => by cases z) (fun _ z => tx_ne_len hpe (by omega) z.2) (by omega) _ _ w ls (lv_sub hl [0, 1, 2, 3, 4, 6, 5] rfl)
    · -- not taken: 26
      refine lv_iconst (v := nI 1) hx hb d_p15m21_26 (by decide) ?_
      refine lv_goto (tgt := 31) hx hb d_p15m21_27 (by decide) ?_
      refine lv_istore (lv' := [(5, .int (nI 1)), (0, .ref y), (1, .int (nI m9)), (2, .int (nI pe)), (3, .int (-1)), (4, .int (pd_b mb))]) hx hb d_p15m21_31 hl (by decide) rfl (fun ls hl => ?_)
      refine lv_iconst (v := nI 0) hx hb d_p15m21_33 (by decide) ?_
      refine lv_istore (lv' := [(6, .int (nI 0)), (5, .int (nI 1)), (0, .ref y), (1, .int (nI m9)), (2, .int (nI pe)), (3, .int (-1)), (4, .int (pd_b mb))]) hx hb d_p15m21_34 hl (by decide) rfl (fun ls hl => ?_)
      exact lp_Mod_isThisN_36 l G h hMO hL hM hm9 hiv40 htf hpe X hmn (100 + 1) 0 true (by omega) (fun _ => ⟨pd_b_inj q1, by omega, fun t ht => absurd ht (Nat.not_lt_zero t)⟩) (fun z => by cases z) (by omega) _ _ w ls (lv_sub hl [0, 1, 2, 3, 4, 6, 5] rfl)
theorem d_p15m22_0 : decode prog_15_method_22_code 0 = .ok (.iconst 0, 1) := by decide +kernel
theorem d_p15m22_1 : decode prog_15_method_22_code 1 = .ok (.istore 5, 2) := by decide +kernel
theorem d_p15m22_3 : decode prog_15_method_22_code 3 = .ok (.iload 5, 2) := by decide +kernel
theorem d_p15m22_5 : decode prog_15_method_22_code 5 = .ok (.aload_n 0, 1) := by decide +kernel
theorem d_p15m22_6 : decode prog_15_method_22_code 6 = .ok (.getfield 148, 3) := by decide +kernel
theorem d_p15m22_9 : decode prog_15_method_22_code 9 = .ok (.if_icmp .ge 36, 3) := by decide +kernel
theorem d_p15m22_12 : decode prog_15_method_22_code 12 = .ok (.aload_n 0, 1) := by decide +kernel
theorem d_p15m22_13 : decode prog_15_method_22_code 13 = .ok (.getfield 42, 3) := by decide +kernel
theorem d_p15m22_16 : decode prog_15_method_22_code 16 = .ok (.iload 5, 2) := by decide +kernel
theorem d_p15m22_18 : decode prog_15_method_22_code 18 = .ok (.iaload, 1) := by decide +kernel
theorem d_p15m22_19 : decode prog_15_method_22_code 19 = .ok (.iload_n 1, 1) := by decide +kernel
theorem d_p15m22_20 : decode prog_15_method_22_code 20 = .ok (.if_icmp .ne 19, 3) := by decide +kernel
theorem d_p15m22_23 : decode prog_15_method_22_code 23 = .ok (.aload_n 0, 1) := by decide +kernel
theorem d_p15m22_24 : decode prog_15_method_22_code 24 = .ok (.iload 5, 2) := by decide +kernel
theorem d_p15m22_26 : decode prog_15_method_22_code 26 = .ok (.iload_n 2, 1) := by decide +kernel
theorem d_p15m22_27 : decode prog_15_method_22_code 27 = .ok (.iload_n 3, 1) := by decide +kernel
theorem d_p15m22_28 : decode prog_15_method_22_code 28 = .ok (.iload 4, 2) := by decide +kernel
theorem d_p15m22_30 : decode prog_15_method_22_code 30 = .ok (.invokevirtual 151, 3) := by decide +kernel
theorem d_p15m22_33 : decode prog_15_method_22_code 33 = .ok (.ifCond .eq 6, 3) := by decide +kernel
theorem d_p15m22_36 : decode prog_15_method_22_code 36 = .ok (.iload 5, 2) := by decide +kernel
theorem d_p15m22_38 : decode prog_15_method_22_code 38 = .ok (.ireturn, 1) := by decide +kernel
theorem d_p15m22_39 : decode prog_15_method_22_code 39 = .ok (.iinc 5 1, 3) := by decide +kernel
theorem d_p15m22_42 : decode prog_15_method_22_code 42 = .ok (.goto (-39), 3) := by decide +kernel
theorem d_p15m22_45 : decode prog_15_method_22_code 45 = .ok (.iconst (-1), 1) := by decide +kernel
theorem d_p15m22_46 : decode prog_15_method_22_code 46 = .ok (.ireturn, 1) := by decide +kernel
abbrev y_Mod_ownW : MethodName := ⟨"PolicyDeskModel", "own", "(IIIZ)I"⟩
theorem ok_Mod_ownW : pd_ok y_Mod_ownW prog_15_method_22_code 6 (some .int) 4 := ⟨mT_1361, mT_21, by decide, by decide +kernel⟩
abbrev rm_Mod_ownW : Room := { frames := 1, cells := 0, slots := 0, locals := 26 }
set_option maxHeartbeats 4000000 in
set_option maxRecDepth 100000 in
theorem lp_Mod_ownW_3 (l : Launch) (G : pd_G) (h : pd_H) {y : Nat} {ad : Nat → Nat} {fv : Nat → Nat → Int32} {iv : Nat → Int32} {tl : Int64} {cs : List Nat} {n : Nat} {k : Nat} {M : Nat → pd_mr} {c9 pe tf : Nat} {mb : Bool} {nw w9 : Nat} {sA eA : Nat → Nat} (hMO : pd_MO G h y ad fv iv tl) (hL : gm_L fv iv cs) (hM : gm_M fv iv n k M) (hn14 : n ≤ 14) (hc9 : c9 < 2 ^ 30) (hiv40 : iv 40 = nI tf) (htf : tf ≤ pe) (hpe : pe ≤ cs.length) (hW : gm_W fv cs nw sA eA) (hw9 : w9 < nw) (hmb : gr_ism (tx_sub cs (sA w9) (eA w9)) = mb) {p : Program} {e : Env} {s : State} {m : MethodId} {below : List Frame} {meth : Method} {c : Code} (X : pd_B p s m [.ref y, .int (nI c9), .int (nI pe), .int (nI w9), .int (pd_b mb)].toArray meth c G y_Mod_ownW.cls prog_15_method_22_code 6 (some .int)) (hmn : meth.name = y_Mod_ownW.name) :
    ∀ (kk9 : Nat) (i : Nat), (i ≤ k) → (∀ t, t < i → (decide ((M t).1 = c9) && decide ((M t).2.1 = tx_sub cs tf pe) && decide ((M t).2.2.1 = tx_sub cs (sA w9) (eA w9))) = false) → k - i < kk9 → ∀ (H : Heap) (locs : List Loc), pd_w G s H locs h → ∀ ls : Array Slot, lv_has ls 6 [(5, .int (nI i)), (0, .ref y), (1, .int (nI c9)), (2, .int (nI pe)), (3, .int (nI w9)), (4, .int (pd_b mb))] → W p l e rm_Mod_ownW s m [.ref y, .int (nI c9), .int (nI pe), .int (nI w9), .int (pd_b mb)].toArray below meth c H locs 0 0 (MQ below (pd_Q G pd_vm (fun r h1 => r = gr_decl M k c9 (tx_sub cs tf pe) (tx_sub cs (sA w9) (eA w9)) ∧ h = h1)) [.ref y, .int (nI c9), .int (nI pe), .int (nI w9), .int (pd_b mb)].toArray s rm_Mod_ownW.cells rm_Mod_ownW.slots (fun q => G.2.1 ≤ q)) (F0 m 3 ls []) := by
  have hx := X.1
  have hb := X.2.1
  have hz_y := hMO.2.1
  have hy0 : h y = some (20, .inr (10, [.ref (ad 0), .ref (ad 1), .ref (ad 2), .int (iv 3), .int (iv 4), .int (iv 5), .ref (ad 6), .ref (ad 7), .ref (ad 8), .ref (ad 9), .ref (ad 10), .ref (ad 11), .int (iv 12), .ref (ad 13), .ref (ad 14), .ref (ad 15), .ref (ad 16), .ref (ad 17), .ref (ad 18), .ref (ad 19), .int (iv 20), .ref (ad 21), .ref (ad 22), .ref (ad 23), .ref (ad 24), .ref (ad 25), .ref (ad 26), .ref (ad 27), .ref (ad 28), .int (iv 29), .ref (ad 30), .ref (ad 31), .int (iv 32), .int (iv 33), .int (iv 34), .int (iv 35), .long tl, .int (iv 37), .int (iv 38), .int (iv 39), .int (iv 40), .ref (ad 41), .ref (ad 42), .int (iv 43)])) := hMO.1
  have ha13 : h (ad 13) = some (43, .inl (.int, 24, .inl (fv 13))) := (hMO.2.2 13 (by decide)).1
  obtain ⟨hiv3, hln, hl60, hlc⟩ := id hL
  obtain ⟨hiv20, hk24, hMm⟩ := id hM
  intro kk9
  induction kk9 with
  | zero => intros; omega
  | succ kk9 ih =>
    intro i hi hj hmu H locs w ls hl
    refine lv_iload hx hb d_p15m22_3 (lv_at hl 0 rfl) ?_
    refine lv_aload_n hx hb d_p15m22_5 rfl (lv_at hl 1 rfl) ?_
    refine pd_get X w hy0 rfl 20 (by decide) mT_1159 rfl rfl d_p15m22_6 ?_
    refine pd_top (v' := .int (nI k)) (congrArg Value.int hiv20) ?_
    refine pd_jge (tgt := 45) hx hb d_p15m22_9 (by decide) (by omega) (by omega) (fun q1 => ?_) (fun q1 => ?_)
    · -- taken: 45
      refine lv_iconst (v := -1) hx hb d_p15m22_45 (by decide) ?_
      refine W.eq (g2 := F0 m 46 ls [.int (pd_m none)]) rfl ?_
      exact pd_mret (v := none) X w ⟨by unfold gr_decl; rw [gr_fi_none (fun t ht => hj t (by omega))], rfl⟩ (by decide) (by decide) d_p15m22_46
    · -- not taken: 12
      refine lv_aload_n hx hb d_p15m22_12 rfl (lv_at hl 1 rfl) ?_
      refine pd_get X w hy0 rfl 13 (by decide) mT_1152 rfl rfl d_p15m22_13 ?_
      refine lv_iload hx hb d_p15m22_16 (lv_at hl 0 rfl) ?_
      refine pd_iald X w ha13 (by omega) (by omega) d_p15m22_18 ?_
      refine pd_top (v' := .int (nI ((M i).1))) (congrArg Value.int (hMm i (by omega)).1) ?_
      have := (hMm i (by omega)).2.1
      refine lv_iload_n hx hb d_p15m22_19 rfl (lv_at hl 2 rfl) ?_
      refine pd_jne (tgt := 39) hx hb d_p15m22_20 (by decide) (by omega) (by omega) (fun q2 => ?_) (fun q2 => ?_)
      · -- taken: 39
        refine pd_iinc (k := 0) (d := 1) (lv' := [(5, .int (nI (i + 1))), (0, .ref y), (1, .int (nI c9)), (2, .int (nI pe)), (3, .int (nI w9)), (4, .int (pd_b mb))]) hx hb d_p15m22_39 (by decide) hl rfl (by decide) rfl (fun ls hl => ?_)
        refine lv_goto (tgt := 3) hx hb d_p15m22_42 (by decide) ?_
        exact ih (i + 1) (by omega) (fun t ht => by by_cases e8 : t = i; subst e8; exact (by show (decide _ && _ && _) = false; rw [decide_eq_false q2]; rfl); exact hj t (by omega)) (by omega) _ _ w ls (lv_sub hl [0, 1, 2, 3, 4, 5] rfl)
      · -- not taken: 23
        refine lv_aload_n hx hb d_p15m22_23 rfl (lv_at hl 1 rfl) ?_
        refine lv_iload hx hb d_p15m22_24 (lv_at hl 0 rfl) ?_
        refine lv_iload_n hx hb d_p15m22_26 rfl (lv_at hl 3 rfl) ?_
        refine lv_iload_n hx hb d_p15m22_27 rfl (lv_at hl 4 rfl) ?_
        refine lv_iload hx hb d_p15m22_28 (lv_at hl 5 rfl) ?_
        refine pd_cV (a := y) (As := [.int (nI i), .int (nI pe), .int (nI w9), .int (pd_b mb)]) (rest := []) X w hy0 rfl (c_Mod_isThisW l G h (ad := ad) (fv := fv) (iv := iv) (tl := tl) hMO (by assumption) (by assumption) (by omega) (by assumption) (by omega) (by omega) (by assumption) (by omega)) ok_Mod_isThisW ⟨mT_1364, sT_30⟩ mT_1362 ⟨by decide, by decide⟩ rfl hl.1 rfl (Nat.le_of_ble_eq_true rfl) d_p15m22_30 ⟨by decide, by decide⟩ (fun r3 h4 H locs hp5 w => ?_)
        refine W.widen (k := 0) (n := 0) (by decide) (by decide) ?_
        obtain ⟨e6, rfl⟩ := hp5
        refine pd_beq (tgt := 39) hx hb d_p15m22_33 (by decide) (fun q7 => ?_) (fun q7 => ?_)
        · -- taken: 39
          refine pd_iinc (k := 0) (d := 1) (lv' := [(5, .int (nI (i + 1))), (0, .ref y), (1, .int (nI c9)), (2, .int (nI pe)), (3, .int (nI w9)), (4, .int (pd_b mb))]) hx hb d_p15m22_39 (by decide) hl rfl (by decide) rfl (fun ls hl => ?_)
          refine lv_goto (tgt := 3) hx hb d_p15m22_42 (by decide) ?_
          exact ih (i + 1) (by omega) (fun t ht => by by_cases e8 : t = i; subst e8; exact (by show (_ && decide _ && decide _) = false; have z := of_decide_eq_false (e6.symm.trans q7); rcases Decidable.em ((M t).2.2.1 = tx_sub cs (sA w9) (eA w9)) with y | y; rw [decide_eq_false (fun x => z ⟨⟨by rw [y]; exact hmb, x⟩, y⟩), Bool.and_false]; rfl; rw [decide_eq_false y, Bool.and_false]); exact hj t (by omega)) (by omega) _ _ w ls (lv_sub hl [0, 1, 2, 3, 4, 5] rfl)
        · -- not taken: 36
          refine lv_iload hx hb d_p15m22_36 (lv_at hl 0 rfl) ?_
          refine W.eq (g2 := F0 m 38 ls [.int (pd_m (some i))]) rfl ?_
          exact pd_mret (v := (some i)) X w ⟨by unfold gr_decl; rw [gr_fi_some (by omega) hj (by have z := of_decide_eq_true (e6.symm.trans q7); show (_ && _ && _) = true; rw [decide_eq_true q2, decide_eq_true z.1.2, decide_eq_true z.2]; rfl)], rfl⟩ (by decide) (by decide) d_p15m22_38
set_option maxHeartbeats 4000000 in
set_option maxRecDepth 100000 in
theorem c_Mod_ownW (l : Launch) (G : pd_G) (h : pd_H) {y : Nat} {ad : Nat → Nat} {fv : Nat → Nat → Int32} {iv : Nat → Int32} {tl : Int64} {cs : List Nat} {n : Nat} {k : Nat} {M : Nat → pd_mr} {c9 pe tf : Nat} {mb : Bool} {nw w9 : Nat} {sA eA : Nat → Nat} (hMO : pd_MO G h y ad fv iv tl) (hL : gm_L fv iv cs) (hM : gm_M fv iv n k M) (hn14 : n ≤ 14) (hc9 : c9 < 2 ^ 30) (hiv40 : iv 40 = nI tf) (htf : tf ≤ pe) (hpe : pe ≤ cs.length) (hW : gm_W fv cs nw sA eA) (hw9 : w9 < nw) (hmb : gr_ism (tx_sub cs (sA w9) (eA w9)) = mb) : pd_M l y_Mod_ownW prog_15_method_22_code 6 (some .int) rm_Mod_ownW G h [.ref y, .int (nI c9), .int (nI pe), .int (nI w9), .int (pd_b mb)] pd_vm (fun r h1 => r = gr_decl M k c9 (tx_sub cs tf pe) (tx_sub cs (sA w9) (eA w9)) ∧ h = h1) := by
  refine pd_M.of (by decide) (Nat.le_of_ble_eq_true rfl) ?_
  intro p e s m below meth c X hmn w ls hl
  have hx := X.1
  have hb := X.2.1
  have hl : lv_has ls 6 [(0, .ref y), (1, .int (nI c9)), (2, .int (nI pe)), (3, .int (nI w9)), (4, .int (pd_b mb))] := hl
  have hz_y := hMO.2.1
  have hy0 : h y = some (20, .inr (10, [.ref (ad 0), .ref (ad 1), .ref (ad 2), .int (iv 3), .int (iv 4), .int (iv 5), .ref (ad 6), .ref (ad 7), .ref (ad 8), .ref (ad 9), .ref (ad 10), .ref (ad 11), .int (iv 12), .ref (ad 13), .ref (ad 14), .ref (ad 15), .ref (ad 16), .ref (ad 17), .ref (ad 18), .ref (ad 19), .int (iv 20), .ref (ad 21), .ref (ad 22), .ref (ad 23), .ref (ad 24), .ref (ad 25), .ref (ad 26), .ref (ad 27), .ref (ad 28), .int (iv 29), .ref (ad 30), .ref (ad 31), .int (iv 32), .int (iv 33), .int (iv 34), .int (iv 35), .long tl, .int (iv 37), .int (iv 38), .int (iv 39), .int (iv 40), .ref (ad 41), .ref (ad 42), .int (iv 43)])) := hMO.1
  have ha13 : h (ad 13) = some (43, .inl (.int, 24, .inl (fv 13))) := (hMO.2.2 13 (by decide)).1
  obtain ⟨hiv3, hln, hl60, hlc⟩ := id hL
  obtain ⟨hiv20, hk24, hMm⟩ := id hM
  refine lv_iconst (v := nI 0) hx hb d_p15m22_0 (by decide) ?_
  refine lv_istore (lv' := [(5, .int (nI 0)), (0, .ref y), (1, .int (nI c9)), (2, .int (nI pe)), (3, .int (nI w9)), (4, .int (pd_b mb))]) hx hb d_p15m22_1 hl (by decide) rfl (fun ls hl => ?_)
  exact lp_Mod_ownW_3 l G h hMO hL hM hn14 hc9 hiv40 htf hpe hW hw9 hmb X hmn (k + 1) 0 (by omega) (fun t ht => absurd ht (Nat.not_lt_zero t)) (by omega) _ _ w ls (lv_sub hl [0, 1, 2, 3, 4, 5] rfl)
abbrev y_Mod_ownN : MethodName := ⟨"PolicyDeskModel", "own", "(IIIZ)I"⟩
theorem ok_Mod_ownN : pd_ok y_Mod_ownN prog_15_method_22_code 6 (some .int) 4 := ⟨mT_1361, mT_21, by decide, by decide +kernel⟩
abbrev rm_Mod_ownN : Room := { frames := 1, cells := 0, slots := 0, locals := 26 }
set_option maxHeartbeats 4000000 in
set_option maxRecDepth 100000 in
theorem lp_Mod_ownN_3 (l : Launch) (G : pd_G) (h : pd_H) {y : Nat} {ad : Nat → Nat} {fv : Nat → Nat → Int32} {iv : Nat → Int32} {tl : Int64} {cs : List Nat} {n : Nat} {k : Nat} {M : Nat → pd_mr} {c9 pe tf : Nat} (hMO : pd_MO G h y ad fv iv tl) (hL : gm_L fv iv cs) (hM : gm_M fv iv n k M) (hn14 : n ≤ 14) (hc9 : c9 < 2 ^ 30) (hiv40 : iv 40 = nI tf) (htf : tf ≤ pe) (hpe : pe ≤ cs.length) {p : Program} {e : Env} {s : State} {m : MethodId} {below : List Frame} {meth : Method} {c : Code} (X : pd_B p s m [.ref y, .int (nI c9), .int (nI pe), .int (-1), .int (pd_b true)].toArray meth c G y_Mod_ownN.cls prog_15_method_22_code 6 (some .int)) (hmn : meth.name = y_Mod_ownN.name) :
    ∀ (kk9 : Nat) (i : Nat), (i ≤ k) → (∀ t, t < i → (decide ((M t).1 = c9) && gr_ism (M t).2.2.1 && decide ((M t).2.1 = tx_sub cs tf pe)) = false) → k - i < kk9 → ∀ (H : Heap) (locs : List Loc), pd_w G s H locs h → ∀ ls : Array Slot, lv_has ls 6 [(5, .int (nI i)), (0, .ref y), (1, .int (nI c9)), (2, .int (nI pe)), (3, .int (-1)), (4, .int (pd_b true))] → W p l e rm_Mod_ownN s m [.ref y, .int (nI c9), .int (nI pe), .int (-1), .int (pd_b true)].toArray below meth c H locs 0 0 (MQ below (pd_Q G pd_vm (fun r h1 => r = gr_fm M k c9 (tx_sub cs tf pe) ∧ h = h1)) [.ref y, .int (nI c9), .int (nI pe), .int (-1), .int (pd_b true)].toArray s rm_Mod_ownN.cells rm_Mod_ownN.slots (fun q => G.2.1 ≤ q)) (F0 m 3 ls []) := by
  have hx := X.1
  have hb := X.2.1
  have hz_y := hMO.2.1
  have hy0 : h y = some (20, .inr (10, [.ref (ad 0), .ref (ad 1), .ref (ad 2), .int (iv 3), .int (iv 4), .int (iv 5), .ref (ad 6), .ref (ad 7), .ref (ad 8), .ref (ad 9), .ref (ad 10), .ref (ad 11), .int (iv 12), .ref (ad 13), .ref (ad 14), .ref (ad 15), .ref (ad 16), .ref (ad 17), .ref (ad 18), .ref (ad 19), .int (iv 20), .ref (ad 21), .ref (ad 22), .ref (ad 23), .ref (ad 24), .ref (ad 25), .ref (ad 26), .ref (ad 27), .ref (ad 28), .int (iv 29), .ref (ad 30), .ref (ad 31), .int (iv 32), .int (iv 33), .int (iv 34), .int (iv 35), .long tl, .int (iv 37), .int (iv 38), .int (iv 39), .int (iv 40), .ref (ad 41), .ref (ad 42), .int (iv 43)])) := hMO.1
  have ha13 : h (ad 13) = some (43, .inl (.int, 24, .inl (fv 13))) := (hMO.2.2 13 (by decide)).1
  obtain ⟨hiv3, hln, hl60, hlc⟩ := id hL
  obtain ⟨hiv20, hk24, hMm⟩ := id hM
  intro kk9
  induction kk9 with
  | zero => intros; omega
  | succ kk9 ih =>
    intro i hi hj hmu H locs w ls hl
    refine lv_iload hx hb d_p15m22_3 (lv_at hl 0 rfl) ?_
    refine lv_aload_n hx hb d_p15m22_5 rfl (lv_at hl 1 rfl) ?_
    refine pd_get X w hy0 rfl 20 (by decide) mT_1159 rfl rfl d_p15m22_6 ?_
    refine pd_top (v' := .int (nI k)) (congrArg Value.int hiv20) ?_
    refine pd_jge (tgt := 45) hx hb d_p15m22_9 (by decide) (by omega) (by omega) (fun q1 => ?_) (fun q1 => ?_)
    · -- taken: 45
      refine lv_iconst (v := -1) hx hb d_p15m22_45 (by decide) ?_
      refine W.eq (g2 := F0 m 46 ls [.int (pd_m none)]) rfl ?_
      exact pd_mret (v := none) X w ⟨by unfold gr_fm; rw [gr_fi_none (fun t ht => hj t (by omega))], rfl⟩ (by decide) (by decide) d_p15m22_46
    · -- not taken: 12
      refine lv_aload_n hx hb d_p15m22_12 rfl (lv_at hl 1 rfl) ?_
      refine pd_get X w hy0 rfl 13 (by decide) mT_1152 rfl rfl d_p15m22_13 ?_
      refine lv_iload hx hb d_p15m22_16 (lv_at hl 0 rfl) ?_
      refine pd_iald X w ha13 (by omega) (by omega) d_p15m22_18 ?_
      refine pd_top (v' := .int (nI ((M i).1))) (congrArg Value.int (hMm i (by omega)).1) ?_
      have := (hMm i (by omega)).2.1
      refine lv_iload_n hx hb d_p15m22_19 rfl (lv_at hl 2 rfl) ?_
      refine pd_jne (tgt := 39) hx hb d_p15m22_20 (by decide) (by omega) (by omega) (fun q2 => ?_) (fun q2 => ?_)
      · -- taken: 39
        refine pd_iinc (k := 0) (d := 1) (lv' := [(5, .int (nI (i + 1))), (0, .ref y), (1, .int (nI c9)), (2, .int (nI pe)), (3, .int (-1)), (4, .int (pd_b true))]) hx hb d_p15m22_39 (by decide) hl rfl (by decide) rfl (fun ls hl => ?_)
        refine lv_goto (tgt := 3) hx hb d_p15m22_42 (by decide) ?_
        exact ih (i + 1) (by omega) (fun t ht => by by_cases e8 : t = i; subst e8; exact (by show (decide _ && _ && _) = false; rw [decide_eq_false q2]; rfl); exact hj t (by omega)) (by omega) _ _ w ls (lv_sub hl [0, 1, 2, 3, 4, 5] rfl)
      · -- not taken: 23
        refine lv_aload_n hx hb d_p15m22_23 rfl (lv_at hl 1 rfl) ?_
        refine lv_iload hx hb d_p15m22_24 (lv_at hl 0 rfl) ?_
        refine lv_iload_n hx hb d_p15m22_26 rfl (lv_at hl 3 rfl) ?_
        refine lv_iload_n hx hb d_p15m22_27 rfl (lv_at hl 4 rfl) ?_
        refine lv_iload hx hb d_p15m22_28 (lv_at hl 5 rfl) ?_
        refine pd_cV (a := y) (As := [.int (nI i), .int (nI pe), .int (-1), .int (pd_b true)]) (rest := []) X w hy0 rfl (c_Mod_isThisN l G h (ad := ad) (fv := fv) (iv := iv) (tl := tl) hMO (by assumption) (by assumption) (by omega) (by assumption) (by omega) (by omega)) ok_Mod_isThisN ⟨mT_1364, sT_30⟩ mT_1362 ⟨by decide, by decide⟩ rfl hl.1 rfl (Nat.le_of_ble_eq_true rfl) d_p15m22_30 ⟨by decide, by decide⟩ (fun r3 h4 H locs hp5 w => ?_)
        refine W.widen (k := 0) (n := 0) (by decide) (by decide) ?_
        obtain ⟨e6, rfl⟩ := hp5
        refine pd_beq (tgt := 39) hx hb d_p15m22_33 (by decide) (fun q7 => ?_) (fun q7 => ?_)
        · -- taken: 39
          refine pd_iinc (k := 0) (d := 1) (lv' := [(5, .int (nI (i + 1))), (0, .ref y), (1, .int (nI c9)), (2, .int (nI pe)), (3, .int (-1)), (4, .int (pd_b true))]) hx hb d_p15m22_39 (by decide) hl rfl (by decide) rfl (fun ls hl => ?_)
          refine lv_goto (tgt := 3) hx hb d_p15m22_42 (by decide) ?_
          exact ih (i + 1) (by omega) (fun t ht => by by_cases e8 : t = i; subst e8; exact (by show (_ && _ && decide _) = false; have z := of_decide_eq_false (e6.symm.trans q7); rcases Bool.eq_false_or_eq_true (gr_ism (M t).2.2.1) with y | y; rw [decide_eq_false (fun x => z ⟨y, x⟩), Bool.and_false]; rw [y, Bool.and_false]; rfl); exact hj t (by omega)) (by omega) _ _ w ls (lv_sub hl [0, 1, 2, 3, 4, 5] rfl)
        · -- not taken: 36
          refine lv_iload hx hb d_p15m22_36 (lv_at hl 0 rfl) ?_
          refine W.eq (g2 := F0 m 38 ls [.int (pd_m (some i))]) rfl ?_
          exact pd_mret (v := (some i)) X w ⟨by unfold gr_fm; rw [gr_fi_some (by omega) hj (by have z := of_decide_eq_true (e6.symm.trans q7); show (_ && _ && _) = true; rw [decide_eq_true q2, z.1, decide_eq_true z.2]; rfl)], rfl⟩ (by decide) (by decide) d_p15m22_38
set_option maxHeartbeats 4000000 in
set_option maxRecDepth 100000 in
theorem c_Mod_ownN (l : Launch) (G : pd_G) (h : pd_H) {y : Nat} {ad : Nat → Nat} {fv : Nat → Nat → Int32} {iv : Nat → Int32} {tl : Int64} {cs : List Nat} {n : Nat} {k : Nat} {M : Nat → pd_mr} {c9 pe tf : Nat} (hMO : pd_MO G h y ad fv iv tl) (hL : gm_L fv iv cs) (hM : gm_M fv iv n k M) (hn14 : n ≤ 14) (hc9 : c9 < 2 ^ 30) (hiv40 : iv 40 = nI tf) (htf : tf ≤ pe) (hpe : pe ≤ cs.length) : pd_M l y_Mod_ownN prog_15_method_22_code 6 (some .int) rm_Mod_ownN G h [.ref y, .int (nI c9), .int (nI pe), .int (-1), .int (pd_b true)] pd_vm (fun r h1 => r = gr_fm M k c9 (tx_sub cs tf pe) ∧ h = h1) := by
  refine pd_M.of (by decide) (Nat.le_of_ble_eq_true rfl) ?_
  intro p e s m below meth c X hmn w ls hl
  have hx := X.1
  have hb := X.2.1
  have hl : lv_has ls 6 [(0, .ref y), (1, .int (nI c9)), (2, .int (nI pe)), (3, .int (-1)), (4, .int (pd_b true))] := hl
  have hz_y := hMO.2.1
  have hy0 : h y = some (20, .inr (10, [.ref (ad 0), .ref (ad 1), .ref (ad 2), .int (iv 3), .int (iv 4), .int (iv 5), .ref (ad 6), .ref (ad 7), .ref (ad 8), .ref (ad 9), .ref (ad 10), .ref (ad 11), .int (iv 12), .ref (ad 13), .ref (ad 14), .ref (ad 15), .ref (ad 16), .ref (ad 17), .ref (ad 18), .ref (ad 19), .int (iv 20), .ref (ad 21), .ref (ad 22), .ref (ad 23), .ref (ad 24), .ref (ad 25), .ref (ad 26), .ref (ad 27), .ref (ad 28), .int (iv 29), .ref (ad 30), .ref (ad 31), .int (iv 32), .int (iv 33), .int (iv 34), .int (iv 35), .long tl, .int (iv 37), .int (iv 38), .int (iv 39), .int (iv 40), .ref (ad 41), .ref (ad 42), .int (iv 43)])) := hMO.1
  have ha13 : h (ad 13) = some (43, .inl (.int, 24, .inl (fv 13))) := (hMO.2.2 13 (by decide)).1
  obtain ⟨hiv3, hln, hl60, hlc⟩ := id hL
  obtain ⟨hiv20, hk24, hMm⟩ := id hM
  refine lv_iconst (v := nI 0) hx hb d_p15m22_0 (by decide) ?_
  refine lv_istore (lv' := [(5, .int (nI 0)), (0, .ref y), (1, .int (nI c9)), (2, .int (nI pe)), (3, .int (-1)), (4, .int (pd_b true))]) hx hb d_p15m22_1 hl (by decide) rfl (fun ls hl => ?_)
  exact lp_Mod_ownN_3 l G h hMO hL hM hn14 hc9 hiv40 htf hpe X hmn (k + 1) 0 (by omega) (fun t ht => absurd ht (Nat.not_lt_zero t)) (by omega) _ _ w ls (lv_sub hl [0, 1, 2, 3, 4, 5] rfl)
