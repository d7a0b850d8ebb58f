/-! the reference's lines: which verb, then its work -/
def gm_Q (G : pd_G) (h h1 : pd_H) (y : Nat) (ad : Nat → Nat) (iv : Nat → Int32) (cs : List Nat) (n : Nat) (R : Nat → pd_cr) (k : Nat) (M : Nat → pd_mr) (u : Nat) (U : Nat → pd_rr) (T : Nat → List Nat) (kp nx : Nat) (sp : Int64) (an gn sn dn : Nat) (r : Int32) : Prop := ∃ (fv2 : Nat → Nat → Int32) (iv2 : Nat → Int32) (tl2 : Int64), pd_MO G h1 y ad fv2 iv2 tl2 ∧ iv2 5 = iv 5 ∧ pd_kx pd_wk h h1 ∧ ((r = -1 ∧ gr_line cs n R k M u U T kp nx sp an gn sn dn = (-1, [], (n, R), (k, M), (u, U), (T, kp, nx), sp, an, gn, sn + 1, dn) ∧ gm_R fv2 iv2 tl2 n R k M u U T kp nx sp an gn dn) ∨ (∃ v, v < 13 ∧ gr_line cs n R k M u U T kp nx sp an gn sn dn = gr_do cs n R k M u U T kp nx sp an gn sn dn v ∧ r = (gr_do cs n R k M u U T kp nx sp an gn sn dn v).1 ∧ gm_RT fv2 iv2 tl2 (gr_do cs n R k M u U T kp nx sp an gn sn dn v).2))
theorem gr_verb_nil : gr_verb [] = none := by decide +kernel
theorem gm_Q_of {G : pd_G} {hp h h1 : pd_H} {y : Nat} {ad : Nat → Nat} {iv : Nat → Int32} {cs : List Nat} {n : Nat} {R : Nat → pd_cr} {k : Nat} {M : Nat → pd_mr} {u : Nat} {U : Nat → pd_rr} {T : Nat → List Nat} {kp nx : Nat} {sp : Int64} {an gn sn dn : Nat} {v : Nat} {r : Int32} (hb : gm_ok cs) (h0 : 0 < (gm_split cs).1) (hv : v < 13) (hvs : ∀ j, j < v → ¬ pd_lit (pd_vw j) = tx_sub cs ((gm_split cs).2.1 0) ((gm_split cs).2.2 0)) (hl : pd_lit (pd_vw v) = tx_sub cs ((gm_split cs).2.1 0) ((gm_split cs).2.2 0)) (hk : pd_kx pd_wk hp h) (q : gm_P G h h1 y ad iv cs n R k M u U T kp nx sp an gn sn dn v r) : gm_Q G hp h1 y ad iv cs n R k M u U T kp nx sp an gn sn dn r := by
  obtain ⟨fv2, iv2, tl2, m2, i5, k2, q⟩ := q
  refine ⟨fv2, iv2, tl2, m2, i5, hk.tr k2, ?_⟩
  by_cases h6 : (gm_split cs).1 ≤ 6
  · have hw : gr_verb (gr_w cs 0) = some v := by rw [gm_w_y h6 h0]; exact gr_verb_some hv hvs hl
    rcases q with ⟨s1, s2, s3⟩ | ⟨s1, s2, s3⟩
    · refine Or.inl ⟨s2, ?_, s3⟩
      unfold gr_line
      rw [hw]
      simp only [s1]
      rfl
    · refine Or.inr ⟨v, hv, ?_, s2, s3⟩
      unfold gr_line
      rw [hw]
      simp only [s1]
      rfl
  · have hw : gr_w cs 0 = [] := gm_w_no (fun z => h6 z.2)
    have sn9 := gm_sn_big hb h6 hv
    rcases q with ⟨s1, s2, s3⟩ | ⟨s1, s2, s3⟩
    · refine Or.inl ⟨s2, ?_, s3⟩
      unfold gr_line
      rw [hw, gr_verb_nil]
    · rw [sn9] at s1
      cases s1
theorem gm_Q_no {G : pd_G} {hp h : pd_H} {y : Nat} {ad : Nat → Nat} {fv : Nat → Nat → Int32} {iv : Nat → Int32} {tl : Int64} {cs : List Nat} {n : Nat} {R : Nat → pd_cr} {k : Nat} {M : Nat → pd_mr} {u : Nat} {U : Nat → pd_rr} {T : Nat → List Nat} {kp nx : Nat} {sp : Int64} {an gn sn dn : Nat} (h0 : 0 < (gm_split cs).1) (hvs : ∀ j, j < 13 → ¬ pd_lit (pd_vw j) = tx_sub cs ((gm_split cs).2.1 0) ((gm_split cs).2.2 0)) (hk : pd_kx pd_wk hp h) (hMO : pd_MO G h y ad fv iv tl) (hR : gm_R fv iv tl n R k M u U T kp nx sp an gn dn) : gm_Q G hp h y ad iv cs n R k M u U T kp nx sp an gn sn dn (-1) := by
  refine ⟨fv, iv, tl, hMO, rfl, hk, Or.inl ⟨rfl, ?_, hR⟩⟩
  unfold gr_line
  by_cases h6 : (gm_split cs).1 ≤ 6
  · rw [gm_w_y h6 h0, gr_verb_none hvs]
  · rw [gm_w_no (fun z => h6 z.2), gr_verb_nil]
theorem gm_vi {cs : List Nat} (hb : gm_ok cs) (h0 : 0 < (gm_split cs).1) : (decide ((gm_split cs).2.2 0 = 9) && (decide (cs.getD 8 0 = 101) && gm_is cs 0 8 7161117524010233449 8)) = decide (tx_sub cs ((gm_split cs).2.1 0) ((gm_split cs).2.2 0) = pd_lit (pd_vw 1)) := by
  have z0 := gm_split_0 h0
  have z1 := (hb 0 h0).2
  by_cases e : (gm_split cs).2.2 0 = 9
  · rw [z0, e, decide_eq_true rfl, Bool.true_and, gm_vb_1 (by omega)]
  · rw [decide_eq_false e, Bool.false_and, decide_eq_false]
    intro z
    have l1 := congrArg List.length z
    rw [tx_sub_len z1, z0] at l1
    exact e (l1.trans (by decide +kernel))
theorem gm_vs {i : Nat} {P : Nat → Prop} (h : ∀ j, j < i → P j) (hi : P i) : ∀ j, j < i + 1 → P j := fun j hj => by
  by_cases e : j = i
  · rw [e]; exact hi
  · exact h j (by omega)
theorem ok_W_0 : pd_ok y_Mod_declareC prog_15_method_30_code 8 (some .int) 2 := ok_Mod_declareC
theorem ok_W_1 : pd_ok y_Mod_declareI prog_15_method_30_code 8 (some .int) 2 := ok_Mod_declareI
theorem ok_W_2 : pd_ok y_Mod_addF prog_15_method_31_code 9 (some .int) 2 := ok_Mod_addF
theorem ok_W_3 : pd_ok y_Mod_addM prog_15_method_31_code 9 (some .int) 2 := ok_Mod_addM
theorem ok_W_4 : pd_ok y_Mod_rule prog_15_method_33_code 5 (some .int) 2 := ok_Mod_rule
theorem ok_W_5 : pd_ok y_Mod_rule prog_15_method_33_code 5 (some .int) 2 := ok_Mod_rule
theorem ok_W_6 : pd_ok y_Mod_rule prog_15_method_33_code 5 (some .int) 2 := ok_Mod_rule
theorem ok_W_7 : pd_ok y_Mod_lead prog_15_method_32_code 3 (some .int) 0 := ok_Mod_lead
theorem ok_W_8 : pd_ok y_Mod_askC prog_15_method_38_code 4 (some .int) 1 := ok_Mod_askC
theorem ok_W_9 : pd_ok y_Mod_askC prog_15_method_38_code 4 (some .int) 1 := ok_Mod_askC
theorem ok_W_10 : pd_ok y_Mod_askC prog_15_method_38_code 4 (some .int) 1 := ok_Mod_askC
theorem ok_W_11 : pd_ok y_Mod_ask4 prog_15_method_38_code 4 (some .int) 1 := ok_Mod_ask4
theorem ok_W_12 : pd_ok y_Mod_ask5 prog_15_method_38_code 4 (some .int) 1 := ok_Mod_ask5
theorem d_p15m28_0 : decode prog_15_method_28_code 0 = .ok (.iload_n 1, 1) := by decide +kernel
theorem d_p15m28_1 : decode prog_15_method_28_code 1 = .ok (.iconst 2, 1) := by decide +kernel
theorem d_p15m28_2 : decode prog_15_method_28_code 2 = .ok (.if_icmp .ne 7, 3) := by decide +kernel
theorem d_p15m28_5 : decode prog_15_method_28_code 5 = .ok (.iconst 1, 1) := by decide +kernel
theorem d_p15m28_6 : decode prog_15_method_28_code 6 = .ok (.goto 4, 3) := by decide +kernel
theorem d_p15m28_9 : decode prog_15_method_28_code 9 = .ok (.iconst 0, 1) := by decide +kernel
theorem d_p15m28_10 : decode prog_15_method_28_code 10 = .ok (.istore_n 2, 1) := by decide +kernel
theorem d_p15m28_11 : decode prog_15_method_28_code 11 = .ok (.iload_n 1, 1) := by decide +kernel
theorem d_p15m28_12 : decode prog_15_method_28_code 12 = .ok (.iconst 3, 1) := by decide +kernel
theorem d_p15m28_13 : decode prog_15_method_28_code 13 = .ok (.if_icmp .ne 7, 3) := by decide +kernel
theorem d_p15m28_16 : decode prog_15_method_28_code 16 = .ok (.iconst 1, 1) := by decide +kernel
theorem d_p15m28_17 : decode prog_15_method_28_code 17 = .ok (.goto 4, 3) := by decide +kernel
theorem d_p15m28_20 : decode prog_15_method_28_code 20 = .ok (.iconst 0, 1) := by decide +kernel
theorem d_p15m28_21 : decode prog_15_method_28_code 21 = .ok (.istore_n 3, 1) := by decide +kernel
theorem d_p15m28_22 : decode prog_15_method_28_code 22 = .ok (.aload_n 0, 1) := by decide +kernel
theorem d_p15m28_23 : decode prog_15_method_28_code 23 = .ok (.iconst 0, 1) := by decide +kernel
theorem d_p15m28_24 : decode prog_15_method_28_code 24 = .ok (.ldc2_w 180, 3) := by decide +kernel
theorem d_p15m28_27 : decode prog_15_method_28_code 27 = .ok (.iconst 5, 1) := by decide +kernel
theorem d_p15m28_28 : decode prog_15_method_28_code 28 = .ok (.invokevirtual 182, 3) := by decide +kernel
theorem d_p15m28_31 : decode prog_15_method_28_code 31 = .ok (.ifCond .eq 10, 3) := by decide +kernel
theorem d_p15m28_34 : decode prog_15_method_28_code 34 = .ok (.aload_n 0, 1) := by decide +kernel
theorem d_p15m28_35 : decode prog_15_method_28_code 35 = .ok (.iload_n 1, 1) := by decide +kernel
theorem d_p15m28_36 : decode prog_15_method_28_code 36 = .ok (.iconst 0, 1) := by decide +kernel
theorem d_p15m28_37 : decode prog_15_method_28_code 37 = .ok (.invokevirtual 186, 3) := by decide +kernel
theorem d_p15m28_40 : decode prog_15_method_28_code 40 = .ok (.ireturn, 1) := by decide +kernel
theorem d_p15m28_41 : decode prog_15_method_28_code 41 = .ok (.aload_n 0, 1) := by decide +kernel
theorem d_p15m28_42 : decode prog_15_method_28_code 42 = .ok (.invokevirtual 190, 3) := by decide +kernel
theorem d_p15m28_45 : decode prog_15_method_28_code 45 = .ok (.ifCond .eq 10, 3) := by decide +kernel
theorem d_p15m28_48 : decode prog_15_method_28_code 48 = .ok (.aload_n 0, 1) := by decide +kernel
theorem d_p15m28_49 : decode prog_15_method_28_code 49 = .ok (.iload_n 1, 1) := by decide +kernel
theorem d_p15m28_50 : decode prog_15_method_28_code 50 = .ok (.iconst 1, 1) := by decide +kernel
theorem d_p15m28_51 : decode prog_15_method_28_code 51 = .ok (.invokevirtual 186, 3) := by decide +kernel
theorem d_p15m28_54 : decode prog_15_method_28_code 54 = .ok (.ireturn, 1) := by decide +kernel
theorem d_p15m28_55 : decode prog_15_method_28_code 55 = .ok (.aload_n 0, 1) := by decide +kernel
theorem d_p15m28_56 : decode prog_15_method_28_code 56 = .ok (.iconst 0, 1) := by decide +kernel
theorem d_p15m28_57 : decode prog_15_method_28_code 57 = .ok (.ldc2_w 194, 3) := by decide +kernel
theorem d_p15m28_60 : decode prog_15_method_28_code 60 = .ok (.iconst 5, 1) := by decide +kernel
theorem d_p15m28_61 : decode prog_15_method_28_code 61 = .ok (.invokevirtual 182, 3) := by decide +kernel
theorem d_p15m28_64 : decode prog_15_method_28_code 64 = .ok (.ifCond .eq 10, 3) := by decide +kernel
theorem d_p15m28_67 : decode prog_15_method_28_code 67 = .ok (.aload_n 0, 1) := by decide +kernel
theorem d_p15m28_68 : decode prog_15_method_28_code 68 = .ok (.iload_n 1, 1) := by decide +kernel
theorem d_p15m28_69 : decode prog_15_method_28_code 69 = .ok (.iconst 0, 1) := by decide +kernel
theorem d_p15m28_70 : decode prog_15_method_28_code 70 = .ok (.invokevirtual 196, 3) := by decide +kernel
theorem d_p15m28_73 : decode prog_15_method_28_code 73 = .ok (.ireturn, 1) := by decide +kernel
theorem d_p15m28_74 : decode prog_15_method_28_code 74 = .ok (.aload_n 0, 1) := by decide +kernel
theorem d_p15m28_75 : decode prog_15_method_28_code 75 = .ok (.iconst 0, 1) := by decide +kernel
theorem d_p15m28_76 : decode prog_15_method_28_code 76 = .ok (.ldc2_w 199, 3) := by decide +kernel
theorem d_p15m28_79 : decode prog_15_method_28_code 79 = .ok (.bipush 6, 2) := by decide +kernel
theorem d_p15m28_81 : decode prog_15_method_28_code 81 = .ok (.invokevirtual 182, 3) := by decide +kernel
theorem d_p15m28_84 : decode prog_15_method_28_code 84 = .ok (.ifCond .eq 10, 3) := by decide +kernel
theorem d_p15m28_87 : decode prog_15_method_28_code 87 = .ok (.aload_n 0, 1) := by decide +kernel
theorem d_p15m28_88 : decode prog_15_method_28_code 88 = .ok (.iload_n 1, 1) := by decide +kernel
theorem d_p15m28_89 : decode prog_15_method_28_code 89 = .ok (.iconst 1, 1) := by decide +kernel
theorem d_p15m28_90 : decode prog_15_method_28_code 90 = .ok (.invokevirtual 196, 3) := by decide +kernel
theorem d_p15m28_93 : decode prog_15_method_28_code 93 = .ok (.ireturn, 1) := by decide +kernel
theorem d_p15m28_94 : decode prog_15_method_28_code 94 = .ok (.aload_n 0, 1) := by decide +kernel
theorem d_p15m28_95 : decode prog_15_method_28_code 95 = .ok (.iconst 0, 1) := by decide +kernel
theorem d_p15m28_96 : decode prog_15_method_28_code 96 = .ok (.ldc2_w 201, 3) := by decide +kernel
theorem d_p15m28_99 : decode prog_15_method_28_code 99 = .ok (.iconst 5, 1) := by decide +kernel
theorem d_p15m28_100 : decode prog_15_method_28_code 100 = .ok (.invokevirtual 182, 3) := by decide +kernel
theorem d_p15m28_103 : decode prog_15_method_28_code 103 = .ok (.ifCond .eq 18, 3) := by decide +kernel
theorem d_p15m28_106 : decode prog_15_method_28_code 106 = .ok (.iload_n 2, 1) := by decide +kernel
theorem d_p15m28_107 : decode prog_15_method_28_code 107 = .ok (.ifCond .eq 12, 3) := by decide +kernel
theorem d_p15m28_110 : decode prog_15_method_28_code 110 = .ok (.aload_n 0, 1) := by decide +kernel
theorem d_p15m28_111 : decode prog_15_method_28_code 111 = .ok (.iconst 0, 1) := by decide +kernel
theorem d_p15m28_112 : decode prog_15_method_28_code 112 = .ok (.iconst 0, 1) := by decide +kernel
theorem d_p15m28_113 : decode prog_15_method_28_code 113 = .ok (.invokevirtual 203, 3) := by decide +kernel
theorem d_p15m28_116 : decode prog_15_method_28_code 116 = .ok (.goto 4, 3) := by decide +kernel
theorem d_p15m28_119 : decode prog_15_method_28_code 119 = .ok (.iconst (-1), 1) := by decide +kernel
theorem d_p15m28_120 : decode prog_15_method_28_code 120 = .ok (.ireturn, 1) := by decide +kernel
theorem d_p15m28_121 : decode prog_15_method_28_code 121 = .ok (.aload_n 0, 1) := by decide +kernel
theorem d_p15m28_122 : decode prog_15_method_28_code 122 = .ok (.iconst 0, 1) := by decide +kernel
theorem d_p15m28_123 : decode prog_15_method_28_code 123 = .ok (.ldc2_w 206, 3) := by decide +kernel
theorem d_p15m28_126 : decode prog_15_method_28_code 126 = .ok (.iconst 4, 1) := by decide +kernel
theorem d_p15m28_127 : decode prog_15_method_28_code 127 = .ok (.invokevirtual 182, 3) := by decide +kernel
theorem d_p15m28_130 : decode prog_15_method_28_code 130 = .ok (.ifCond .eq 18, 3) := by decide +kernel
theorem d_p15m28_133 : decode prog_15_method_28_code 133 = .ok (.iload_n 2, 1) := by decide +kernel
theorem d_p15m28_134 : decode prog_15_method_28_code 134 = .ok (.ifCond .eq 12, 3) := by decide +kernel
theorem d_p15m28_137 : decode prog_15_method_28_code 137 = .ok (.aload_n 0, 1) := by decide +kernel
theorem d_p15m28_138 : decode prog_15_method_28_code 138 = .ok (.iconst 1, 1) := by decide +kernel
theorem d_p15m28_139 : decode prog_15_method_28_code 139 = .ok (.iconst 0, 1) := by decide +kernel
theorem d_p15m28_140 : decode prog_15_method_28_code 140 = .ok (.invokevirtual 203, 3) := by decide +kernel
theorem d_p15m28_143 : decode prog_15_method_28_code 143 = .ok (.goto 4, 3) := by decide +kernel
theorem d_p15m28_146 : decode prog_15_method_28_code 146 = .ok (.iconst (-1), 1) := by decide +kernel
theorem d_p15m28_147 : decode prog_15_method_28_code 147 = .ok (.ireturn, 1) := by decide +kernel
theorem d_p15m28_148 : decode prog_15_method_28_code 148 = .ok (.aload_n 0, 1) := by decide +kernel
theorem d_p15m28_149 : decode prog_15_method_28_code 149 = .ok (.iconst 0, 1) := by decide +kernel
theorem d_p15m28_150 : decode prog_15_method_28_code 150 = .ok (.ldc2_w 208, 3) := by decide +kernel
theorem d_p15m28_153 : decode prog_15_method_28_code 153 = .ok (.iconst 4, 1) := by decide +kernel
theorem d_p15m28_154 : decode prog_15_method_28_code 154 = .ok (.invokevirtual 182, 3) := by decide +kernel
theorem d_p15m28_157 : decode prog_15_method_28_code 157 = .ok (.ifCond .eq 22, 3) := by decide +kernel
theorem d_p15m28_160 : decode prog_15_method_28_code 160 = .ok (.iload_n 3, 1) := by decide +kernel
theorem d_p15m28_161 : decode prog_15_method_28_code 161 = .ok (.ifCond .eq 16, 3) := by decide +kernel
theorem d_p15m28_164 : decode prog_15_method_28_code 164 = .ok (.aload_n 0, 1) := by decide +kernel
theorem d_p15m28_165 : decode prog_15_method_28_code 165 = .ok (.iconst 2, 1) := by decide +kernel
theorem d_p15m28_166 : decode prog_15_method_28_code 166 = .ok (.aload_n 0, 1) := by decide +kernel
theorem d_p15m28_167 : decode prog_15_method_28_code 167 = .ok (.iconst 2, 1) := by decide +kernel
theorem d_p15m28_168 : decode prog_15_method_28_code 168 = .ok (.invokevirtual 210, 3) := by decide +kernel
theorem d_p15m28_171 : decode prog_15_method_28_code 171 = .ok (.invokevirtual 203, 3) := by decide +kernel
theorem d_p15m28_174 : decode prog_15_method_28_code 174 = .ok (.goto 4, 3) := by decide +kernel
theorem d_p15m28_177 : decode prog_15_method_28_code 177 = .ok (.iconst (-1), 1) := by decide +kernel
theorem d_p15m28_178 : decode prog_15_method_28_code 178 = .ok (.ireturn, 1) := by decide +kernel
theorem d_p15m28_179 : decode prog_15_method_28_code 179 = .ok (.aload_n 0, 1) := by decide +kernel
theorem d_p15m28_180 : decode prog_15_method_28_code 180 = .ok (.iconst 0, 1) := by decide +kernel
theorem d_p15m28_181 : decode prog_15_method_28_code 181 = .ok (.ldc2_w 213, 3) := by decide +kernel
theorem d_p15m28_184 : decode prog_15_method_28_code 184 = .ok (.iconst 4, 1) := by decide +kernel
theorem d_p15m28_185 : decode prog_15_method_28_code 185 = .ok (.invokevirtual 182, 3) := by decide +kernel
theorem d_p15m28_188 : decode prog_15_method_28_code 188 = .ok (.ifCond .eq 16, 3) := by decide +kernel
theorem d_p15m28_191 : decode prog_15_method_28_code 191 = .ok (.iload_n 3, 1) := by decide +kernel
theorem d_p15m28_192 : decode prog_15_method_28_code 192 = .ok (.ifCond .eq 10, 3) := by decide +kernel
theorem d_p15m28_195 : decode prog_15_method_28_code 195 = .ok (.aload_n 0, 1) := by decide +kernel
theorem d_p15m28_196 : decode prog_15_method_28_code 196 = .ok (.invokevirtual 215, 3) := by decide +kernel
theorem d_p15m28_199 : decode prog_15_method_28_code 199 = .ok (.goto 4, 3) := by decide +kernel
theorem d_p15m28_202 : decode prog_15_method_28_code 202 = .ok (.iconst (-1), 1) := by decide +kernel
theorem d_p15m28_203 : decode prog_15_method_28_code 203 = .ok (.ireturn, 1) := by decide +kernel
theorem d_p15m28_204 : decode prog_15_method_28_code 204 = .ok (.aload_n 0, 1) := by decide +kernel
theorem d_p15m28_205 : decode prog_15_method_28_code 205 = .ok (.iconst 0, 1) := by decide +kernel
theorem d_p15m28_206 : decode prog_15_method_28_code 206 = .ok (.ldc2_w 218, 3) := by decide +kernel
theorem d_p15m28_209 : decode prog_15_method_28_code 209 = .ok (.iconst 3, 1) := by decide +kernel
theorem d_p15m28_210 : decode prog_15_method_28_code 210 = .ok (.invokevirtual 182, 3) := by decide +kernel
theorem d_p15m28_213 : decode prog_15_method_28_code 213 = .ok (.ifCond .eq 17, 3) := by decide +kernel
theorem d_p15m28_216 : decode prog_15_method_28_code 216 = .ok (.iload_n 2, 1) := by decide +kernel
theorem d_p15m28_217 : decode prog_15_method_28_code 217 = .ok (.ifCond .eq 11, 3) := by decide +kernel
theorem d_p15m28_220 : decode prog_15_method_28_code 220 = .ok (.aload_n 0, 1) := by decide +kernel
theorem d_p15m28_221 : decode prog_15_method_28_code 221 = .ok (.iconst 1, 1) := by decide +kernel
theorem d_p15m28_222 : decode prog_15_method_28_code 222 = .ok (.invokevirtual 220, 3) := by decide +kernel
theorem d_p15m28_225 : decode prog_15_method_28_code 225 = .ok (.goto 4, 3) := by decide +kernel
theorem d_p15m28_228 : decode prog_15_method_28_code 228 = .ok (.iconst (-1), 1) := by decide +kernel
theorem d_p15m28_229 : decode prog_15_method_28_code 229 = .ok (.ireturn, 1) := by decide +kernel
theorem d_p15m28_230 : decode prog_15_method_28_code 230 = .ok (.aload_n 0, 1) := by decide +kernel
theorem d_p15m28_231 : decode prog_15_method_28_code 231 = .ok (.iconst 0, 1) := by decide +kernel
theorem d_p15m28_232 : decode prog_15_method_28_code 232 = .ok (.ldc2_w 223, 3) := by decide +kernel
theorem d_p15m28_235 : decode prog_15_method_28_code 235 = .ok (.iconst 4, 1) := by decide +kernel
theorem d_p15m28_236 : decode prog_15_method_28_code 236 = .ok (.invokevirtual 182, 3) := by decide +kernel
theorem d_p15m28_239 : decode prog_15_method_28_code 239 = .ok (.ifCond .eq 17, 3) := by decide +kernel
theorem d_p15m28_242 : decode prog_15_method_28_code 242 = .ok (.iload_n 2, 1) := by decide +kernel
theorem d_p15m28_243 : decode prog_15_method_28_code 243 = .ok (.ifCond .eq 11, 3) := by decide +kernel
theorem d_p15m28_246 : decode prog_15_method_28_code 246 = .ok (.aload_n 0, 1) := by decide +kernel
theorem d_p15m28_247 : decode prog_15_method_28_code 247 = .ok (.iconst 2, 1) := by decide +kernel
theorem d_p15m28_248 : decode prog_15_method_28_code 248 = .ok (.invokevirtual 220, 3) := by decide +kernel
theorem d_p15m28_251 : decode prog_15_method_28_code 251 = .ok (.goto 4, 3) := by decide +kernel
theorem d_p15m28_254 : decode prog_15_method_28_code 254 = .ok (.iconst (-1), 1) := by decide +kernel
theorem d_p15m28_255 : decode prog_15_method_28_code 255 = .ok (.ireturn, 1) := by decide +kernel
theorem d_p15m28_256 : decode prog_15_method_28_code 256 = .ok (.aload_n 0, 1) := by decide +kernel
theorem d_p15m28_257 : decode prog_15_method_28_code 257 = .ok (.iconst 0, 1) := by decide +kernel
theorem d_p15m28_258 : decode prog_15_method_28_code 258 = .ok (.ldc2_w 225, 3) := by decide +kernel
theorem d_p15m28_261 : decode prog_15_method_28_code 261 = .ok (.iconst 5, 1) := by decide +kernel
theorem d_p15m28_262 : decode prog_15_method_28_code 262 = .ok (.invokevirtual 182, 3) := by decide +kernel
theorem d_p15m28_265 : decode prog_15_method_28_code 265 = .ok (.ifCond .eq 17, 3) := by decide +kernel
theorem d_p15m28_268 : decode prog_15_method_28_code 268 = .ok (.iload_n 2, 1) := by decide +kernel
theorem d_p15m28_269 : decode prog_15_method_28_code 269 = .ok (.ifCond .eq 11, 3) := by decide +kernel
theorem d_p15m28_272 : decode prog_15_method_28_code 272 = .ok (.aload_n 0, 1) := by decide +kernel
theorem d_p15m28_273 : decode prog_15_method_28_code 273 = .ok (.iconst 3, 1) := by decide +kernel
theorem d_p15m28_274 : decode prog_15_method_28_code 274 = .ok (.invokevirtual 220, 3) := by decide +kernel
theorem d_p15m28_277 : decode prog_15_method_28_code 277 = .ok (.goto 4, 3) := by decide +kernel
theorem d_p15m28_280 : decode prog_15_method_28_code 280 = .ok (.iconst (-1), 1) := by decide +kernel
theorem d_p15m28_281 : decode prog_15_method_28_code 281 = .ok (.ireturn, 1) := by decide +kernel
theorem d_p15m28_282 : decode prog_15_method_28_code 282 = .ok (.aload_n 0, 1) := by decide +kernel
theorem d_p15m28_283 : decode prog_15_method_28_code 283 = .ok (.iconst 0, 1) := by decide +kernel
theorem d_p15m28_284 : decode prog_15_method_28_code 284 = .ok (.ldc2_w 227, 3) := by decide +kernel
theorem d_p15m28_287 : decode prog_15_method_28_code 287 = .ok (.iconst 3, 1) := by decide +kernel
theorem d_p15m28_288 : decode prog_15_method_28_code 288 = .ok (.invokevirtual 182, 3) := by decide +kernel
theorem d_p15m28_291 : decode prog_15_method_28_code 291 = .ok (.ifCond .eq 17, 3) := by decide +kernel
theorem d_p15m28_294 : decode prog_15_method_28_code 294 = .ok (.iload_n 3, 1) := by decide +kernel
theorem d_p15m28_295 : decode prog_15_method_28_code 295 = .ok (.ifCond .eq 11, 3) := by decide +kernel
theorem d_p15m28_298 : decode prog_15_method_28_code 298 = .ok (.aload_n 0, 1) := by decide +kernel
theorem d_p15m28_299 : decode prog_15_method_28_code 299 = .ok (.iconst 4, 1) := by decide +kernel
theorem d_p15m28_300 : decode prog_15_method_28_code 300 = .ok (.invokevirtual 220, 3) := by decide +kernel
theorem d_p15m28_303 : decode prog_15_method_28_code 303 = .ok (.goto 4, 3) := by decide +kernel
theorem d_p15m28_306 : decode prog_15_method_28_code 306 = .ok (.iconst (-1), 1) := by decide +kernel
theorem d_p15m28_307 : decode prog_15_method_28_code 307 = .ok (.ireturn, 1) := by decide +kernel
theorem d_p15m28_308 : decode prog_15_method_28_code 308 = .ok (.aload_n 0, 1) := by decide +kernel
theorem d_p15m28_309 : decode prog_15_method_28_code 309 = .ok (.iconst 0, 1) := by decide +kernel
theorem d_p15m28_310 : decode prog_15_method_28_code 310 = .ok (.ldc2_w 229, 3) := by decide +kernel
theorem d_p15m28_313 : decode prog_15_method_28_code 313 = .ok (.iconst 4, 1) := by decide +kernel
theorem d_p15m28_314 : decode prog_15_method_28_code 314 = .ok (.invokevirtual 182, 3) := by decide +kernel
theorem d_p15m28_317 : decode prog_15_method_28_code 317 = .ok (.ifCond .eq 17, 3) := by decide +kernel
theorem d_p15m28_320 : decode prog_15_method_28_code 320 = .ok (.iload_n 3, 1) := by decide +kernel
theorem d_p15m28_321 : decode prog_15_method_28_code 321 = .ok (.ifCond .eq 11, 3) := by decide +kernel
theorem d_p15m28_324 : decode prog_15_method_28_code 324 = .ok (.aload_n 0, 1) := by decide +kernel
theorem d_p15m28_325 : decode prog_15_method_28_code 325 = .ok (.iconst 5, 1) := by decide +kernel
theorem d_p15m28_326 : decode prog_15_method_28_code 326 = .ok (.invokevirtual 220, 3) := by decide +kernel
theorem d_p15m28_329 : decode prog_15_method_28_code 329 = .ok (.goto 4, 3) := by decide +kernel
theorem d_p15m28_332 : decode prog_15_method_28_code 332 = .ok (.iconst (-1), 1) := by decide +kernel
theorem d_p15m28_333 : decode prog_15_method_28_code 333 = .ok (.ireturn, 1) := by decide +kernel
theorem d_p15m28_334 : decode prog_15_method_28_code 334 = .ok (.iconst (-1), 1) := by decide +kernel
theorem d_p15m28_335 : decode prog_15_method_28_code 335 = .ok (.ireturn, 1) := by decide +kernel
abbrev y_Mod_work : MethodName := ⟨"PolicyDeskModel", "work", "(I)I"⟩
theorem ok_Mod_work : pd_ok y_Mod_work prog_15_method_28_code 4 (some .int) 1 := ⟨mT_1295, mT_21, by decide, by decide +kernel⟩
abbrev rm_Mod_work : Room := { frames := 7, cells := 0, slots := 0, locals := 164 }
set_option maxHeartbeats 4000000 in
set_option maxRecDepth 100000 in
theorem c_Mod_work (l : Launch) (G : pd_G) (h : pd_H) {y : Nat} {ad : Nat → Nat} {fv : Nat → Nat → Int32} {iv : Nat → Int32} {tl : Int64} {cs : List Nat} {n : Nat} {R : Nat → pd_cr} {k : Nat} {M : Nat → pd_mr} {u : Nat} {U : Nat → pd_rr} {T : Nat → List Nat} {kp nx : Nat} {sp : Int64} {an gn sn dn : Nat} (hMO : pd_MO G h y ad fv iv tl) (hL : gm_L fv iv cs) (hR : gm_R fv iv tl n R k M u U T kp nx sp an gn dn) (hI : gm_I n R k u U) (hW : gm_W fv cs (gm_split cs).1 (gm_split cs).2.1 (gm_split cs).2.2) (han : an < 1000) (h0 : 0 < (gm_split cs).1) : pd_M l y_Mod_work prog_15_method_28_code 4 (some .int) rm_Mod_work G h [.ref y, .int (nI ((gm_split cs).1))] Value.int (fun r h1 => gm_Q G h h1 y ad iv cs n R k M u U T kp nx sp an gn sn dn r) := by
  refine pd_M.of (by decide) (Nat.le_of_ble_eq_true rfl) ?_
  intro p e s m below meth c X hmn w ls hl
  have hx := X.1
  have hb := X.2.1
  have hl : lv_has ls 4 [(0, .ref y), (1, .int (nI ((gm_split cs).1)))] := hl
  have hz_y := hMO.2.1
  have hy0 : h y = some (20, .inr (10, [.ref (ad 0), .ref (ad 1), .ref (ad 2), .int (iv 3), .int (iv 4), .int (iv 5), .ref (ad 6), .ref (ad 7), .ref (ad 8), .ref (ad 9), .ref (ad 10), .ref (ad 11), .int (iv 12), .ref (ad 13), .ref (ad 14), .ref (ad 15), .ref (ad 16), .ref (ad 17), .ref (ad 18), .ref (ad 19), .int (iv 20), .ref (ad 21), .ref (ad 22), .ref (ad 23), .ref (ad 24), .ref (ad 25), .ref (ad 26), .ref (ad 27), .ref (ad 28), .int (iv 29), .ref (ad 30), .ref (ad 31), .int (iv 32), .int (iv 33), .int (iv 34), .int (iv 35), .long tl, .int (iv 37), .int (iv 38), .int (iv 39), .int (iv 40), .ref (ad 41), .ref (ad 42), .int (iv 43)])) := hMO.1
  have hok := hW.ok
  have hw31 := hW.1
  have hvs0 : ∀ j, j < 0 → ¬ pd_lit (pd_vw j) = tx_sub cs ((gm_split cs).2.1 0) ((gm_split cs).2.2 0) := fun j hj => absurd hj (Nat.not_lt_zero j)
  refine lv_iload_n hx hb d_p15m28_0 rfl (lv_at hl 1 rfl) ?_
  refine lv_iconst (v := nI 2) hx hb d_p15m28_1 (by decide) ?_
  refine pd_jne (tgt := 9) hx hb d_p15m28_2 (by decide) (by omega) (by omega) (fun q1 => ?_) (fun q1 => ?_)
  · -- taken: 9
    refine lv_iconst (v := nI 0) hx hb d_p15m28_9 (by decide) ?_
    refine lv_istore_n (lv' := [(2, .int (nI 0)), (0, .ref y), (1, .int (nI ((gm_split cs).1)))]) hx hb d_p15m28_10 rfl hl (by decide) rfl (fun ls hl => ?_)
    refine lv_iload_n hx hb d_p15m28_11 rfl (lv_at hl 2 rfl) ?_
    refine lv_iconst (v := nI 3) hx hb d_p15m28_12 (by decide) ?_
    refine pd_jne (tgt := 20) hx hb d_p15m28_13 (by decide) (by omega) (by omega) (fun q2 => ?_) (fun q2 => ?_)
    · -- taken: 20
      refine lv_iconst (v := nI 0) hx hb d_p15m28_20 (by decide) ?_
      refine lv_istore_n (lv' := [(3, .int (nI 0)), (2, .int (nI 0)), (0, .ref y), (1, .int (nI ((gm_split cs).1)))]) hx hb d_p15m28_21 rfl hl (by decide) rfl (fun ls hl => ?_)
      refine lv_aload_n hx hb d_p15m28_22 rfl (lv_at hl 2 rfl) ?_
      refine lv_iconst (v := nI 0) hx hb d_p15m28_23 (by decide) ?_
      refine lv_ldc2 (v := 495857003619) hx hb X.2.2.2.2.1 (X.2.2.2.2.2.1 _ mT_1296) d_p15m28_24 ?_
      refine lv_iconst (v := nI 5) hx hb d_p15m28_27 (by decide) ?_
      refine pd_cV (a := y) (As := [.int (nI 0), .long 495857003619, .int (nI 5)]) (rest := []) X w hy0 rfl (c_Mod_is l G h (cs := cs) (nw := (gm_split cs).1) (sA := (gm_split cs).2.1) (eA := (gm_split cs).2.2) (i0 := 0) (ad := ad) (fv := fv) (iv := iv) (tl := tl) hMO hL hW h0 (by omega)) ok_Mod_is ⟨mT_1299, sT_15⟩ mT_1297 ⟨by decide, by decide⟩ rfl hl.1 rfl (Nat.le_of_ble_eq_true rfl) d_p15m28_28 ⟨by decide, by decide⟩ (fun r3 h4 H locs hp5 w => ?_)
      refine W.widen (k := 0) (n := 0) (by decide) (by decide) ?_
      obtain ⟨e6, rfl⟩ := hp5
      refine pd_beq (tgt := 41) hx hb d_p15m28_31 (by decide) (fun q7 => ?_) (fun q7 => ?_)
      · -- taken: 41
        have hvs1 : ∀ j, j < 1 → ¬ pd_lit (pd_vw j) = tx_sub cs ((gm_split cs).2.1 0) ((gm_split cs).2.2 0) := gm_vs hvs0 (fun z => of_decide_eq_false ((gm_is_eq (hok 0 h0).2).symm.trans (e6.symm.trans q7)) (z.symm.trans gm_vb_0.symm))
        refine lv_aload_n hx hb d_p15m28_41 rfl (lv_at hl 2 rfl) ?_
        refine pd_cV (a := y) (As := []) (rest := []) X w hy0 rfl (c_Mod_isInterface l G h (cs := cs) (nw := (gm_split cs).1) (sA := (gm_split cs).2.1) (eA := (gm_split cs).2.2) (ad := ad) (fv := fv) (iv := iv) (tl := tl) hMO hL hW h0 (gm_split_0 h0)) ok_Mod_isInterface ⟨mT_1330, sT_22⟩ mT_1328 ⟨by decide, by decide⟩ rfl hl.1 rfl (Nat.le_of_ble_eq_true rfl) d_p15m28_42 ⟨by decide, by decide⟩ (fun r8 h9 H locs hp10 w => ?_)
        refine W.widen (k := 0) (n := 0) (by decide) (by decide) ?_
        obtain ⟨e11, k12, f13⟩ := hp10
        have hy14 : h9 y = some (20, .inr (10, [.ref (ad 0), .ref (ad 1), .ref (ad 2), .int (iv 3), .int (iv 4), .int (iv 5), .ref (ad 6), .ref (ad 7), .ref (ad 8), .ref (ad 9), .ref (ad 10), .ref (ad 11), .int (iv 12), .ref (ad 13), .ref (ad 14), .ref (ad 15), .ref (ad 16), .ref (ad 17), .ref (ad 18), .ref (ad 19), .int (iv 20), .ref (ad 21), .ref (ad 22), .ref (ad 23), .ref (ad 24), .ref (ad 25), .ref (ad 26), .ref (ad 27), .ref (ad 28), .int (iv 29), .ref (ad 30), .ref (ad 31), .int (iv 32), .int (iv 33), .int (iv 34), .int (iv 35), .long tl, .int (iv 37), .int (iv 38), .int (iv 39), .int (iv 40), .ref (ad 41), .ref (ad 42), .int (iv 43)])) := f13.1
        refine pd_beq (tgt := 55) hx hb d_p15m28_45 (by decide) (fun q15 => ?_) (fun q15 => ?_)
        · -- taken: 55
          have hvs2 : ∀ j, j < 2 → ¬ pd_lit (pd_vw j) = tx_sub cs ((gm_split cs).2.1 0) ((gm_split cs).2.2 0) := gm_vs hvs1 (fun z => of_decide_eq_false ((gm_vi hok h0).symm.trans (e11.symm.trans q15)) (z.symm.trans (rfl : pd_lit (pd_vw 1) = _).symm))
          refine lv_aload_n hx hb d_p15m28_55 rfl (lv_at hl 2 rfl) ?_
          refine lv_iconst (v := nI 0) hx hb d_p15m28_56 (by decide) ?_
          refine lv_ldc2 (v := 431315315046) hx hb X.2.2.2.2.1 (X.2.2.2.2.2.1 _ mT_1333) d_p15m28_57 ?_
          refine lv_iconst (v := nI 5) hx hb d_p15m28_60 (by decide) ?_
          refine pd_cV (a := y) (As := [.int (nI 0), .long 431315315046, .int (nI 5)]) (rest := []) X w hy14 rfl (c_Mod_is l G h9 (cs := cs) (nw := (gm_split cs).1) (sA := (gm_split cs).2.1) (eA := (gm_split cs).2.2) (i0 := 0) (ad := ad) (fv := fv) (iv := iv) (tl := tl) f13 hL hW h0 (by omega)) ok_Mod_is ⟨mT_1299, sT_15⟩ mT_1297 ⟨by decide, by decide⟩ rfl hl.1 rfl (Nat.le_of_ble_eq_true rfl) d_p15m28_61 ⟨by decide, by decide⟩ (fun r16 h17 H locs hp18 w => ?_)
          refine W.widen (k := 0) (n := 0) (by decide) (by decide) ?_
          obtain ⟨e19, rfl⟩ := hp18
          refine pd_beq (tgt := 74) hx hb d_p15m28_64 (by decide) (fun q20 => ?_) (fun q20 => ?_)
          · -- taken: 74
            have hvs3 : ∀ j, j < 3 → ¬ pd_lit (pd_vw j) = tx_sub cs ((gm_split cs).2.1 0) ((gm_split cs).2.2 0) := gm_vs hvs2 (fun z => of_decide_eq_false ((gm_is_eq (hok 0 h0).2).symm.trans (e19.symm.trans q20)) (z.symm.trans gm_vb_2.symm))
            refine lv_aload_n hx hb d_p15m28_74 rfl (lv_at hl 2 rfl) ?_
            refine lv_iconst (v := nI 0) hx hb d_p15m28_75 (by decide) ?_
            refine lv_ldc2 (v := 110429656606061) hx hb X.2.2.2.2.1 (X.2.2.2.2.2.1 _ mT_1367) d_p15m28_76 ?_
            refine lv_bipush (v := nI 6) hx hb d_p15m28_79 (by decide) ?_
            refine pd_cV (a := y) (As := [.int (nI 0), .long 110429656606061, .int (nI 6)]) (rest := []) X w hy14 rfl (c_Mod_is l G h9 (cs := cs) (nw := (gm_split cs).1) (sA := (gm_split cs).2.1) (eA := (gm_split cs).2.2) (i0 := 0) (ad := ad) (fv := fv) (iv := iv) (tl := tl) f13 hL hW h0 (by omega)) ok_Mod_is ⟨mT_1299, sT_15⟩ mT_1297 ⟨by decide, by decide⟩ rfl hl.1 rfl (Nat.le_of_ble_eq_true rfl) d_p15m28_81 ⟨by decide, by decide⟩ (fun r21 h22 H locs hp23 w => ?_)
            refine W.widen (k := 0) (n := 0) (by decide) (by decide) ?_
            obtain ⟨e24, rfl⟩ := hp23
            refine pd_beq (tgt := 94) hx hb d_p15m28_84 (by decide) (fun q25 => ?_) (fun q25 => ?_)
            · -- taken: 94
              have hvs4 : ∀ j, j < 4 → ¬ pd_lit (pd_vw j) = tx_sub cs ((gm_split cs).2.1 0) ((gm_split cs).2.2 0) := gm_vs hvs3 (fun z => of_decide_eq_false ((gm_is_eq (hok 0 h0).2).symm.trans (e24.symm.trans q25)) (z.symm.trans gm_vb_3.symm))
              refine lv_aload_n hx hb d_p15m28_94 rfl (lv_at hl 2 rfl) ?_
              refine lv_iconst (v := nI 0) hx hb d_p15m28_95 (by decide) ?_
              refine lv_ldc2 (v := 512970484833) hx hb X.2.2.2.2.1 (X.2.2.2.2.2.1 _ mT_1368) d_p15m28_96 ?_
              refine lv_iconst (v := nI 5) hx hb d_p15m28_99 (by decide) ?_
              refine pd_cV (a := y) (As := [.int (nI 0), .long 512970484833, .int (nI 5)]) (rest := []) X w hy14 rfl (c_Mod_is l G h9 (cs := cs) (nw := (gm_split cs).1) (sA := (gm_split cs).2.1) (eA := (gm_split cs).2.2) (i0 := 0) (ad := ad) (fv := fv) (iv := iv) (tl := tl) f13 hL hW h0 (by omega)) ok_Mod_is ⟨mT_1299, sT_15⟩ mT_1297 ⟨by decide, by decide⟩ rfl hl.1 rfl (Nat.le_of_ble_eq_true rfl) d_p15m28_100 ⟨by decide, by decide⟩ (fun r26 h27 H locs hp28 w => ?_)
              refine W.widen (k := 0) (n := 0) (by decide) (by decide) ?_
              obtain ⟨e29, rfl⟩ := hp28
              refine pd_beq (tgt := 121) hx hb d_p15m28_103 (by decide) (fun q30 => ?_) (fun q30 => ?_)
              · -- taken: 121
                have hvs5 : ∀ j, j < 5 → ¬ pd_lit (pd_vw j) = tx_sub cs ((gm_split cs).2.1 0) ((gm_split cs).2.2 0) := gm_vs hvs4 (fun z => of_decide_eq_false ((gm_is_eq (hok 0 h0).2).symm.trans (e29.symm.trans q30)) (z.symm.trans gm_vb_4.symm))
                refine lv_aload_n hx hb d_p15m28_121 rfl (lv_at hl 2 rfl) ?_
                refine lv_iconst (v := nI 0) hx hb d_p15m28_122 (by decide) ?_
                refine lv_ldc2 (v := 2037278052) hx hb X.2.2.2.2.1 (X.2.2.2.2.2.1 _ mT_1377) d_p15m28_123 ?_
                refine lv_iconst (v := nI 4) hx hb d_p15m28_126 (by decide) ?_
                refine pd_cV (a := y) (As := [.int (nI 0), .long 2037278052, .int (nI 4)]) (rest := []) X w hy14 rfl (c_Mod_is l G h9 (cs := cs) (nw := (gm_split cs).1) (sA := (gm_split cs).2.1) (eA := (gm_split cs).2.2) (i0 := 0) (ad := ad) (fv := fv) (iv := iv) (tl := tl) f13 hL hW h0 (by omega)) ok_Mod_is ⟨mT_1299, sT_15⟩ mT_1297 ⟨by decide, by decide⟩ rfl hl.1 rfl (Nat.le_of_ble_eq_true rfl) d_p15m28_127 ⟨by decide, by decide⟩ (fun r31 h32 H locs hp33 w => ?_)
                refine W.widen (k := 0) (n := 0) (by decide) (by decide) ?_
                obtain ⟨e34, rfl⟩ := hp33
                refine pd_beq (tgt := 148) hx hb d_p15m28_130 (by decide) (fun q35 => ?_) (fun q35 => ?_)
                · -- taken: 148
                  have hvs6 : ∀ j, j < 6 → ¬ pd_lit (pd_vw j) = tx_sub cs ((gm_split cs).2.1 0) ((gm_split cs).2.2 0) := gm_vs hvs5 (fun z => of_decide_eq_false ((gm_is_eq (hok 0 h0).2).symm.trans (e34.symm.trans q35)) (z.symm.trans gm_vb_5.symm))
                  refine lv_aload_n hx hb d_p15m28_148 rfl (lv_at hl 2 rfl) ?_
                  refine lv_iconst (v := nI 0) hx hb d_p15m28_149 (by decide) ?_
                  refine lv_ldc2 (v := 1953722211) hx hb X.2.2.2.2.1 (X.2.2.2.2.2.1 _ mT_1378) d_p15m28_150 ?_
                  refine lv_iconst (v := nI 4) hx hb d_p15m28_153 (by decide) ?_
                  refine pd_cV (a := y) (As := [.int (nI 0), .long 1953722211, .int (nI 4)]) (rest := []) X w hy14 rfl (c_Mod_is l G h9 (cs := cs) (nw := (gm_split cs).1) (sA := (gm_split cs).2.1) (eA := (gm_split cs).2.2) (i0 := 0) (ad := ad) (fv := fv) (iv := iv) (tl := tl) f13 hL hW h0 (by omega)) ok_Mod_is ⟨mT_1299, sT_15⟩ mT_1297 ⟨by decide, by decide⟩ rfl hl.1 rfl (Nat.le_of_ble_eq_true rfl) d_p15m28_154 ⟨by decide, by decide⟩ (fun r36 h37 H locs hp38 w => ?_)
                  refine W.widen (k := 0) (n := 0) (by decide) (by decide) ?_
                  obtain ⟨e39, rfl⟩ := hp38
                  refine pd_beq (tgt := 179) hx hb d_p15m28_157 (by decide) (fun q40 => ?_) (fun q40 => ?_)
                  · -- taken: 179
                    have hvs7 : ∀ j, j < 7 → ¬ pd_lit (pd_vw j) = tx_sub cs ((gm_split cs).2.1 0) ((gm_split cs).2.2 0) := gm_vs hvs6 (fun z => of_decide_eq_false ((gm_is_eq (hok 0 h0).2).symm.trans (e39.symm.trans q40)) (z.symm.trans gm_vb_6.symm))
                    refine lv_aload_n hx hb d_p15m28_179 rfl (lv_at hl 2 rfl) ?_
                    refine lv_iconst (v := nI 0) hx hb d_p15m28_180 (by decide) ?_
                    refine lv_ldc2 (v := 1835624563) hx hb X.2.2.2.2.1 (X.2.2.2.2.2.1 _ mT_1383) d_p15m28_181 ?_
                    refine lv_iconst (v := nI 4) hx hb d_p15m28_184 (by decide) ?_
                    refine pd_cV (a := y) (As := [.int (nI 0), .long 1835624563, .int (nI 4)]) (rest := []) X w hy14 rfl (c_Mod_is l G h9 (cs := cs) (nw := (gm_split cs).1) (sA := (gm_split cs).2.1) (eA := (gm_split cs).2.2) (i0 := 0) (ad := ad) (fv := fv) (iv := iv) (tl := tl) f13 hL hW h0 (by omega)) ok_Mod_is ⟨mT_1299, sT_15⟩ mT_1297 ⟨by decide, by decide⟩ rfl hl.1 rfl (Nat.le_of_ble_eq_true rfl) d_p15m28_185 ⟨by decide, by decide⟩ (fun r41 h42 H locs hp43 w => ?_)
                    refine W.widen (k := 0) (n := 0) (by decide) (by decide) ?_
                    obtain ⟨e44, rfl⟩ := hp43
                    refine pd_beq (tgt := 204) hx hb d_p15m28_188 (by decide) (fun q45 => ?_) (fun q45 => ?_)
                    · -- taken: 204
                      have hvs8 : ∀ j, j < 8 → ¬ pd_lit (pd_vw j) = tx_sub cs ((gm_split cs).2.1 0) ((gm_split cs).2.2 0) := gm_vs hvs7 (fun z => of_decide_eq_false ((gm_is_eq (hok 0 h0).2).symm.trans (e44.symm.trans q45)) (z.symm.trans gm_vb_7.symm))
                      refine lv_aload_n hx hb d_p15m28_204 rfl (lv_at hl 2 rfl) ?_
                      refine lv_iconst (v := nI 0) hx hb d_p15m28_205 (by decide) ?_
                      refine lv_ldc2 (v := 7824750) hx hb X.2.2.2.2.1 (X.2.2.2.2.2.1 _ mT_1388) d_p15m28_206 ?_
                      refine lv_iconst (v := nI 3) hx hb d_p15m28_209 (by decide) ?_
                      refine pd_cV (a := y) (As := [.int (nI 0), .long 7824750, .int (nI 3)]) (rest := []) X w hy14 rfl (c_Mod_is l G h9 (cs := cs) (nw := (gm_split cs).1) (sA := (gm_split cs).2.1) (eA := (gm_split cs).2.2) (i0 := 0) (ad := ad) (fv := fv) (iv := iv) (tl := tl) f13 hL hW h0 (by omega)) ok_Mod_is ⟨mT_1299, sT_15⟩ mT_1297 ⟨by decide, by decide⟩ rfl hl.1 rfl (Nat.le_of_ble_eq_true rfl) d_p15m28_210 ⟨by decide, by decide⟩ (fun r46 h47 H locs hp48 w => ?_)
                      refine W.widen (k := 0) (n := 0) (by decide) (by decide) ?_
                      obtain ⟨e49, rfl⟩ := hp48
                      refine pd_beq (tgt := 230) hx hb d_p15m28_213 (by decide) (fun q50 => ?_) (fun q50 => ?_)
                      · -- taken: 230
                        have hvs9 : ∀ j, j < 9 → ¬ pd_lit (pd_vw j) = tx_sub cs ((gm_split cs).2.1 0) ((gm_split cs).2.2 0) := gm_vs hvs8 (fun z => of_decide_eq_false ((gm_is_eq (hok 0 h0).2).symm.trans (e49.symm.trans q50)) (z.symm.trans gm_vb_8.symm))
                        refine lv_aload_n hx hb d_p15m28_230 rfl (lv_at hl 2 rfl) ?_
                        refine lv_iconst (v := nI 0) hx hb d_p15m28_231 (by decide) ?_
                        refine lv_ldc2 (v := 1953718627) hx hb X.2.2.2.2.1 (X.2.2.2.2.2.1 _ mT_1451) d_p15m28_232 ?_
                        refine lv_iconst (v := nI 4) hx hb d_p15m28_235 (by decide) ?_
                        refine pd_cV (a := y) (As := [.int (nI 0), .long 1953718627, .int (nI 4)]) (rest := []) X w hy14 rfl (c_Mod_is l G h9 (cs := cs) (nw := (gm_split cs).1) (sA := (gm_split cs).2.1) (eA := (gm_split cs).2.2) (i0 := 0) (ad := ad) (fv := fv) (iv := iv) (tl := tl) f13 hL hW h0 (by omega)) ok_Mod_is ⟨mT_1299, sT_15⟩ mT_1297 ⟨by decide, by decide⟩ rfl hl.1 rfl (Nat.le_of_ble_eq_true rfl) d_p15m28_236 ⟨by decide, by decide⟩ (fun r51 h52 H locs hp53 w => ?_)
                        refine W.widen (k := 0) (n := 0) (by decide) (by decide) ?_
                        obtain ⟨e54, rfl⟩ := hp53
                        refine pd_beq (tgt := 256) hx hb d_p15m28_239 (by decide) (fun q55 => ?_) (fun q55 => ?_)
                        · -- taken: 256
                          have hvs10 : ∀ j, j < 10 → ¬ pd_lit (pd_vw j) = tx_sub cs ((gm_split cs).2.1 0) ((gm_split cs).2.2 0) := gm_vs hvs9 (fun z => of_decide_eq_false ((gm_is_eq (hok 0 h0).2).symm.trans (e54.symm.trans q55)) (z.symm.trans gm_vb_9.symm))
                          refine lv_aload_n hx hb d_p15m28_256 rfl (lv_at hl 2 rfl) ?_
                          refine lv_iconst (v := nI 0) hx hb d_p15m28_257 (by decide) ?_
                          refine lv_ldc2 (v := 448345170275) hx hb X.2.2.2.2.1 (X.2.2.2.2.2.1 _ mT_1452) d_p15m28_258 ?_
                          refine lv_iconst (v := nI 5) hx hb d_p15m28_261 (by decide) ?_
                          refine pd_cV (a := y) (As := [.int (nI 0), .long 448345170275, .int (nI 5)]) (rest := []) X w hy14 rfl (c_Mod_is l G h9 (cs := cs) (nw := (gm_split cs).1) (sA := (gm_split cs).2.1) (eA := (gm_split cs).2.2) (i0 := 0) (ad := ad) (fv := fv) (iv := iv) (tl := tl) f13 hL hW h0 (by omega)) ok_Mod_is ⟨mT_1299, sT_15⟩ mT_1297 ⟨by decide, by decide⟩ rfl hl.1 rfl (Nat.le_of_ble_eq_true rfl) d_p15m28_262 ⟨by decide, by decide⟩ (fun r56 h57 H locs hp58 w => ?_)
                          refine W.widen (k := 0) (n := 0) (by decide) (by decide) ?_
                          obtain ⟨e59, rfl⟩ := hp58
                          refine pd_beq (tgt := 282) hx hb d_p15m28_265 (by decide) (fun q60 => ?_) (fun q60 => ?_)
                          · -- taken: 282
                            have hvs11 : ∀ j, j < 11 → ¬ pd_lit (pd_vw j) = tx_sub cs ((gm_split cs).2.1 0) ((gm_split cs).2.2 0) := gm_vs hvs10 (fun z => of_decide_eq_false ((gm_is_eq (hok 0 h0).2).symm.trans (e59.symm.trans q60)) (z.symm.trans gm_vb_10.symm))
                            refine lv_aload_n hx hb d_p15m28_282 rfl (lv_at hl 2 rfl) ?_
                            refine lv_iconst (v := nI 0) hx hb d_p15m28_283 (by decide) ?_
                            refine lv_ldc2 (v := 7628135) hx hb X.2.2.2.2.1 (X.2.2.2.2.2.1 _ mT_1453) d_p15m28_284 ?_
                            refine lv_iconst (v := nI 3) hx hb d_p15m28_287 (by decide) ?_
                            refine pd_cV (a := y) (As := [.int (nI 0), .long 7628135, .int (nI 3)]) (rest := []) X w hy14 rfl (c_Mod_is l G h9 (cs := cs) (nw := (gm_split cs).1) (sA := (gm_split cs).2.1) (eA := (gm_split cs).2.2) (i0 := 0) (ad := ad) (fv := fv) (iv := iv) (tl := tl) f13 hL hW h0 (by omega)) ok_Mod_is ⟨mT_1299, sT_15⟩ mT_1297 ⟨by decide, by decide⟩ rfl hl.1 rfl (Nat.le_of_ble_eq_true rfl) d_p15m28_288 ⟨by decide, by decide⟩ (fun r61 h62 H locs hp63 w => ?_)
                            refine W.widen (k := 0) (n := 0) (by decide) (by decide) ?_
                            obtain ⟨e64, rfl⟩ := hp63
                            refine pd_beq (tgt := 308) hx hb d_p15m28_291 (by decide) (fun q65 => ?_) (fun q65 => ?_)
                            · -- taken: 308
                              have hvs12 : ∀ j, j < 12 → ¬ pd_lit (pd_vw j) = tx_sub cs ((gm_split cs).2.1 0) ((gm_split cs).2.2 0) := gm_vs hvs11 (fun z => of_decide_eq_false ((gm_is_eq (hok 0 h0).2).symm.trans (e64.symm.trans q65)) (z.symm.trans gm_vb_11.symm))
                              refine lv_aload_n hx hb d_p15m28_308 rfl (lv_at hl 2 rfl) ?_
                              refine lv_iconst (v := nI 0) hx hb d_p15m28_309 (by decide) ?_
                              refine lv_ldc2 (v := 1819042147) hx hb X.2.2.2.2.1 (X.2.2.2.2.2.1 _ mT_1454) d_p15m28_310 ?_
                              refine lv_iconst (v := nI 4) hx hb d_p15m28_313 (by decide) ?_
                              refine pd_cV (a := y) (As := [.int (nI 0), .long 1819042147, .int (nI 4)]) (rest := []) X w hy14 rfl (c_Mod_is l G h9 (cs := cs) (nw := (gm_split cs).1) (sA := (gm_split cs).2.1) (eA := (gm_split cs).2.2) (i0 := 0) (ad := ad) (fv := fv) (iv := iv) (tl := tl) f13 hL hW h0 (by omega)) ok_Mod_is ⟨mT_1299, sT_15⟩ mT_1297 ⟨by decide, by decide⟩ rfl hl.1 rfl (Nat.le_of_ble_eq_true rfl) d_p15m28_314 ⟨by decide, by decide⟩ (fun r66 h67 H locs hp68 w => ?_)
                              refine W.widen (k := 0) (n := 0) (by decide) (by decide) ?_
                              obtain ⟨e69, rfl⟩ := hp68
                              refine pd_beq (tgt := 334) hx hb d_p15m28_317 (by decide) (fun q70 => ?_) (fun q70 => ?_)
                              · -- taken: 334
                                have hvs13 : ∀ j, j < 13 → ¬ pd_lit (pd_vw j) = tx_sub cs ((gm_split cs).2.1 0) ((gm_split cs).2.2 0) := gm_vs hvs12 (fun z => of_decide_eq_false ((gm_is_eq (hok 0 h0).2).symm.trans (e69.symm.trans q70)) (z.symm.trans gm_vb_12.symm))
                                refine lv_iconst (v := -1) hx hb d_p15m28_334 (by decide) ?_
                                exact pd_iret (v := (-1)) X w (gm_Q_no h0 hvs13 ((pd_kx.mono (us := pd_wk) (k12) (by decide))) f13 hR) (by decide) (by decide) d_p15m28_335
                              · -- not taken: 320
                                have hlit : pd_lit (pd_vw 12) = tx_sub cs ((gm_split cs).2.1 0) ((gm_split cs).2.2 0) := ((of_decide_eq_true ((gm_is_eq (hok 0 h0).2).symm.trans (e69.symm.trans q70))).trans gm_vb_12).symm
                                refine lv_iload_n hx hb d_p15m28_320 rfl (lv_at hl 0 rfl) ?_
                                refine pd_zeq (tgt := 332) hx hb d_p15m28_321 (by decide) (by decide) (fun _ => ?_) (fun q => absurd q (by decide))
                                refine lv_iconst (v := -1) hx hb d_p15m28_332 (by decide) ?_
                                exact pd_iret (v := (-1)) X w (gm_Q_of hok h0 (by decide) hvs12 hlit ((pd_kx.mono (us := pd_wk) (k12) (by decide))) (gm_P_no f13 hR (gm_sn_12 (by omega)))) (by decide) (by decide) d_p15m28_333
                            · -- not taken: 294
                              have hlit : pd_lit (pd_vw 11) = tx_sub cs ((gm_split cs).2.1 0) ((gm_split cs).2.2 0) := ((of_decide_eq_true ((gm_is_eq (hok 0 h0).2).symm.trans (e64.symm.trans q65))).trans gm_vb_11).symm
                              refine lv_iload_n hx hb d_p15m28_294 rfl (lv_at hl 0 rfl) ?_
                              refine pd_zeq (tgt := 306) hx hb d_p15m28_295 (by decide) (by decide) (fun _ => ?_) (fun q => absurd q (by decide))
                              refine lv_iconst (v := -1) hx hb d_p15m28_306 (by decide) ?_
                              exact pd_iret (v := (-1)) X w (gm_Q_of hok h0 (by decide) hvs11 hlit ((pd_kx.mono (us := pd_wk) (k12) (by decide))) (gm_P_no f13 hR (gm_sn_11 (by omega)))) (by decide) (by decide) d_p15m28_307
                          · -- not taken: 268
                            have hlit : pd_lit (pd_vw 10) = tx_sub cs ((gm_split cs).2.1 0) ((gm_split cs).2.2 0) := ((of_decide_eq_true ((gm_is_eq (hok 0 h0).2).symm.trans (e59.symm.trans q60))).trans gm_vb_10).symm
                            refine lv_iload_n hx hb d_p15m28_268 rfl (lv_at hl 1 rfl) ?_
                            refine pd_zeq (tgt := 280) hx hb d_p15m28_269 (by decide) (by decide) (fun _ => ?_) (fun q => absurd q (by decide))
                            refine lv_iconst (v := -1) hx hb d_p15m28_280 (by decide) ?_
                            exact pd_iret (v := (-1)) X w (gm_Q_of hok h0 (by decide) hvs10 hlit ((pd_kx.mono (us := pd_wk) (k12) (by decide))) (gm_P_no f13 hR (gm_sn_10 (by omega)))) (by decide) (by decide) d_p15m28_281
                        · -- not taken: 242
                          have hlit : pd_lit (pd_vw 9) = tx_sub cs ((gm_split cs).2.1 0) ((gm_split cs).2.2 0) := ((of_decide_eq_true ((gm_is_eq (hok 0 h0).2).symm.trans (e54.symm.trans q55))).trans gm_vb_9).symm
                          refine lv_iload_n hx hb d_p15m28_242 rfl (lv_at hl 1 rfl) ?_
                          refine pd_zeq (tgt := 254) hx hb d_p15m28_243 (by decide) (by decide) (fun _ => ?_) (fun q => absurd q (by decide))
                          refine lv_iconst (v := -1) hx hb d_p15m28_254 (by decide) ?_
                          exact pd_iret (v := (-1)) X w (gm_Q_of hok h0 (by decide) hvs9 hlit ((pd_kx.mono (us := pd_wk) (k12) (by decide))) (gm_P_no f13 hR (gm_sn_9 (by omega)))) (by decide) (by decide) d_p15m28_255
                      · -- not taken: 216
                        have hlit : pd_lit (pd_vw 8) = tx_sub cs ((gm_split cs).2.1 0) ((gm_split cs).2.2 0) := ((of_decide_eq_true ((gm_is_eq (hok 0 h0).2).symm.trans (e49.symm.trans q50))).trans gm_vb_8).symm
                        refine lv_iload_n hx hb d_p15m28_216 rfl (lv_at hl 1 rfl) ?_
                        refine pd_zeq (tgt := 228) hx hb d_p15m28_217 (by decide) (by decide) (fun _ => ?_) (fun q => absurd q (by decide))
                        refine lv_iconst (v := -1) hx hb d_p15m28_228 (by decide) ?_
                        exact pd_iret (v := (-1)) X w (gm_Q_of hok h0 (by decide) hvs8 hlit ((pd_kx.mono (us := pd_wk) (k12) (by decide))) (gm_P_no f13 hR (gm_sn_8 (by omega)))) (by decide) (by decide) d_p15m28_229
                    · -- not taken: 191
                      have hlit : pd_lit (pd_vw 7) = tx_sub cs ((gm_split cs).2.1 0) ((gm_split cs).2.2 0) := ((of_decide_eq_true ((gm_is_eq (hok 0 h0).2).symm.trans (e44.symm.trans q45))).trans gm_vb_7).symm
                      refine lv_iload_n hx hb d_p15m28_191 rfl (lv_at hl 0 rfl) ?_
                      refine pd_zeq (tgt := 202) hx hb d_p15m28_192 (by decide) (by decide) (fun _ => ?_) (fun q => absurd q (by decide))
                      refine lv_iconst (v := -1) hx hb d_p15m28_202 (by decide) ?_
                      exact pd_iret (v := (-1)) X w (gm_Q_of hok h0 (by decide) hvs7 hlit ((pd_kx.mono (us := pd_wk) (k12) (by decide))) (gm_P_no f13 hR (gm_sn_7 (by omega)))) (by decide) (by decide) d_p15m28_203
                  · -- not taken: 160
                    have hlit : pd_lit (pd_vw 6) = tx_sub cs ((gm_split cs).2.1 0) ((gm_split cs).2.2 0) := ((of_decide_eq_true ((gm_is_eq (hok 0 h0).2).symm.trans (e39.symm.trans q40))).trans gm_vb_6).symm
                    refine lv_iload_n hx hb d_p15m28_160 rfl (lv_at hl 0 rfl) ?_
                    refine pd_zeq (tgt := 177) hx hb d_p15m28_161 (by decide) (by decide) (fun _ => ?_) (fun q => absurd q (by decide))
                    refine lv_iconst (v := -1) hx hb d_p15m28_177 (by decide) ?_
                    exact pd_iret (v := (-1)) X w (gm_Q_of hok h0 (by decide) hvs6 hlit ((pd_kx.mono (us := pd_wk) (k12) (by decide))) (gm_P_no f13 hR (gm_sn_6 (by omega)))) (by decide) (by decide) d_p15m28_178
                · -- not taken: 133
                  have hlit : pd_lit (pd_vw 5) = tx_sub cs ((gm_split cs).2.1 0) ((gm_split cs).2.2 0) := ((of_decide_eq_true ((gm_is_eq (hok 0 h0).2).symm.trans (e34.symm.trans q35))).trans gm_vb_5).symm
                  refine lv_iload_n hx hb d_p15m28_133 rfl (lv_at hl 1 rfl) ?_
                  refine pd_zeq (tgt := 146) hx hb d_p15m28_134 (by decide) (by decide) (fun _ => ?_) (fun q => absurd q (by decide))
                  refine lv_iconst (v := -1) hx hb d_p15m28_146 (by decide) ?_
                  exact pd_iret (v := (-1)) X w (gm_Q_of hok h0 (by decide) hvs5 hlit ((pd_kx.mono (us := pd_wk) (k12) (by decide))) (gm_P_no f13 hR (gm_sn_5 (by omega)))) (by decide) (by decide) d_p15m28_147
              · -- not taken: 106
                have hlit : pd_lit (pd_vw 4) = tx_sub cs ((gm_split cs).2.1 0) ((gm_split cs).2.2 0) := ((of_decide_eq_true ((gm_is_eq (hok 0 h0).2).symm.trans (e29.symm.trans q30))).trans gm_vb_4).symm
                refine lv_iload_n hx hb d_p15m28_106 rfl (lv_at hl 1 rfl) ?_
                refine pd_zeq (tgt := 119) hx hb d_p15m28_107 (by decide) (by decide) (fun _ => ?_) (fun q => absurd q (by decide))
                refine lv_iconst (v := -1) hx hb d_p15m28_119 (by decide) ?_
                exact pd_iret (v := (-1)) X w (gm_Q_of hok h0 (by decide) hvs4 hlit ((pd_kx.mono (us := pd_wk) (k12) (by decide))) (gm_P_no f13 hR (gm_sn_4 (by omega)))) (by decide) (by decide) d_p15m28_120
            · -- not taken: 87
              have hlit : pd_lit (pd_vw 3) = tx_sub cs ((gm_split cs).2.1 0) ((gm_split cs).2.2 0) := ((of_decide_eq_true ((gm_is_eq (hok 0 h0).2).symm.trans (e24.symm.trans q25))).trans gm_vb_3).symm
              refine lv_aload_n hx hb d_p15m28_87 rfl (lv_at hl 2 rfl) ?_
              refine lv_iload_n hx hb d_p15m28_88 rfl (lv_at hl 3 rfl) ?_
              refine lv_iconst (v := nI 1) hx hb d_p15m28_89 (by decide) ?_
              refine pd_cV (a := y) (As := [.int (nI ((gm_split cs).1)), .int (nI 1)]) (rest := []) X w hy14 rfl (c_W_3 l G h9 (cs := cs) (n := n) (R := R) (k := k) (M := M) (u := u) (U := U) (T := T) (kp := kp) (nx := nx) (sp := sp) (an := an) (gn := gn) (sn := sn) (dn := dn) (ad := ad) (fv := fv) (iv := iv) (tl := tl) f13 hL hR hI hW han) ok_W_3 ⟨mT_1336, sT_23⟩ mT_1334 ⟨by decide, by decide⟩ rfl hl.1 rfl (Nat.le_of_ble_eq_true rfl) d_p15m28_90 ⟨by decide, by decide⟩ (fun r80 h81 H locs hp82 w => ?_)
              refine W.widen (k := 0) (n := 0) (by decide) (by decide) ?_
              exact pd_iret (v := r80) X w (gm_Q_of hok h0 (by decide) hvs3 hlit ((pd_kx.mono (us := pd_wk) (k12) (by decide))) hp82) (by decide) (by decide) d_p15m28_93
          · -- not taken: 67
            have hlit : pd_lit (pd_vw 2) = tx_sub cs ((gm_split cs).2.1 0) ((gm_split cs).2.2 0) := ((of_decide_eq_true ((gm_is_eq (hok 0 h0).2).symm.trans (e19.symm.trans q20))).trans gm_vb_2).symm
            refine lv_aload_n hx hb d_p15m28_67 rfl (lv_at hl 2 rfl) ?_
            refine lv_iload_n hx hb d_p15m28_68 rfl (lv_at hl 3 rfl) ?_
            refine lv_iconst (v := nI 0) hx hb d_p15m28_69 (by decide) ?_
            refine pd_cV (a := y) (As := [.int (nI ((gm_split cs).1)), .int (nI 0)]) (rest := []) X w hy14 rfl (c_W_2 l G h9 (cs := cs) (n := n) (R := R) (k := k) (M := M) (u := u) (U := U) (T := T) (kp := kp) (nx := nx) (sp := sp) (an := an) (gn := gn) (sn := sn) (dn := dn) (ad := ad) (fv := fv) (iv := iv) (tl := tl) f13 hL hR hI hW han) ok_W_2 ⟨mT_1336, sT_23⟩ mT_1334 ⟨by decide, by decide⟩ rfl hl.1 rfl (Nat.le_of_ble_eq_true rfl) d_p15m28_70 ⟨by decide, by decide⟩ (fun r83 h84 H locs hp85 w => ?_)
            refine W.widen (k := 0) (n := 0) (by decide) (by decide) ?_
            exact pd_iret (v := r83) X w (gm_Q_of hok h0 (by decide) hvs2 hlit ((pd_kx.mono (us := pd_wk) (k12) (by decide))) hp85) (by decide) (by decide) d_p15m28_73
        · -- not taken: 48
          have hlit : pd_lit (pd_vw 1) = tx_sub cs ((gm_split cs).2.1 0) ((gm_split cs).2.2 0) := (of_decide_eq_true ((gm_vi hok h0).symm.trans (e11.symm.trans q15))).symm
          refine lv_aload_n hx hb d_p15m28_48 rfl (lv_at hl 2 rfl) ?_
          refine lv_iload_n hx hb d_p15m28_49 rfl (lv_at hl 3 rfl) ?_
          refine lv_iconst (v := nI 1) hx hb d_p15m28_50 (by decide) ?_
          refine pd_cV (a := y) (As := [.int (nI ((gm_split cs).1)), .int (nI 1)]) (rest := []) X w hy14 rfl (c_W_1 l G h9 (cs := cs) (n := n) (R := R) (k := k) (M := M) (u := u) (U := U) (T := T) (kp := kp) (nx := nx) (sp := sp) (an := an) (gn := gn) (sn := sn) (dn := dn) (ad := ad) (fv := fv) (iv := iv) (tl := tl) f13 hL hR hI hW han) ok_W_1 ⟨mT_1303, sT_16⟩ mT_1301 ⟨by decide, by decide⟩ rfl hl.1 rfl (Nat.le_of_ble_eq_true rfl) d_p15m28_51 ⟨by decide, by decide⟩ (fun r86 h87 H locs hp88 w => ?_)
          refine W.widen (k := 0) (n := 0) (by decide) (by decide) ?_
          exact pd_iret (v := r86) X w (gm_Q_of hok h0 (by decide) hvs1 hlit ((pd_kx.mono (us := pd_wk) (k12) (by decide))) hp88) (by decide) (by decide) d_p15m28_54
      · -- not taken: 34
        have hlit : pd_lit (pd_vw 0) = tx_sub cs ((gm_split cs).2.1 0) ((gm_split cs).2.2 0) := ((of_decide_eq_true ((gm_is_eq (hok 0 h0).2).symm.trans (e6.symm.trans q7))).trans gm_vb_0).symm
        refine lv_aload_n hx hb d_p15m28_34 rfl (lv_at hl 2 rfl) ?_
        refine lv_iload_n hx hb d_p15m28_35 rfl (lv_at hl 3 rfl) ?_
        refine lv_iconst (v := nI 0) hx hb d_p15m28_36 (by decide) ?_
        refine pd_cV (a := y) (As := [.int (nI ((gm_split cs).1)), .int (nI 0)]) (rest := []) X w hy0 rfl (c_W_0 l G h (cs := cs) (n := n) (R := R) (k := k) (M := M) (u := u) (U := U) (T := T) (kp := kp) (nx := nx) (sp := sp) (an := an) (gn := gn) (sn := sn) (dn := dn) (ad := ad) (fv := fv) (iv := iv) (tl := tl) hMO hL hR hI hW han) ok_W_0 ⟨mT_1303, sT_16⟩ mT_1301 ⟨by decide, by decide⟩ rfl hl.1 rfl (Nat.le_of_ble_eq_true rfl) d_p15m28_37 ⟨by decide, by decide⟩ (fun r89 h90 H locs hp91 w => ?_)
        refine W.widen (k := 0) (n := 0) (by decide) (by decide) ?_
        exact pd_iret (v := r89) X w (gm_Q_of hok h0 (by decide) hvs0 hlit (pd_kx.rf) hp91) (by decide) (by decide) d_p15m28_40
    · -- not taken: 16
      refine lv_iconst (v := nI 1) hx hb d_p15m28_16 (by decide) ?_
      refine lv_goto (tgt := 21) hx hb d_p15m28_17 (by decide) ?_
      refine lv_istore_n (lv' := [(3, .int (nI 1)), (2, .int (nI 0)), (0, .ref y), (1, .int (nI ((gm_split cs).1)))]) hx hb d_p15m28_21 rfl hl (by decide) rfl (fun ls hl => ?_)
      refine lv_aload_n hx hb d_p15m28_22 rfl (lv_at hl 2 rfl) ?_
      refine lv_iconst (v := nI 0) hx hb d_p15m28_23 (by decide) ?_
      refine lv_ldc2 (v := 495857003619) hx hb X.2.2.2.2.1 (X.2.2.2.2.2.1 _ mT_1296) d_p15m28_24 ?_
      refine lv_iconst (v := nI 5) hx hb d_p15m28_27 (by decide) ?_
      refine pd_cV (a := y) (As := [.int (nI 0), .long 495857003619, .int (nI 5)]) (rest := []) X w hy0 rfl (c_Mod_is l G h (cs := cs) (nw := (gm_split cs).1) (sA := (gm_split cs).2.1) (eA := (gm_split cs).2.2) (i0 := 0) (ad := ad) (fv := fv) (iv := iv) (tl := tl) hMO hL hW h0 (by omega)) ok_Mod_is ⟨mT_1299, sT_15⟩ mT_1297 ⟨by decide, by decide⟩ rfl hl.1 rfl (Nat.le_of_ble_eq_true rfl) d_p15m28_28 ⟨by decide, by decide⟩ (fun r92 h93 H locs hp94 w => ?_)
      refine W.widen (k := 0) (n := 0) (by decide) (by decide) ?_
      obtain ⟨e95, rfl⟩ := hp94
      refine pd_beq (tgt := 41) hx hb d_p15m28_31 (by decide) (fun q96 => ?_) (fun q96 => ?_)
      · -- taken: 41
        have hvs1 : ∀ j, j < 1 → ¬ pd_lit (pd_vw j) = tx_sub cs ((gm_split cs).2.1 0) ((gm_split cs).2.2 0) := gm_vs hvs0 (fun z => of_decide_eq_false ((gm_is_eq (hok 0 h0).2).symm.trans (e95.symm.trans q96)) (z.symm.trans gm_vb_0.symm))
        refine lv_aload_n hx hb d_p15m28_41 rfl (lv_at hl 2 rfl) ?_
        refine pd_cV (a := y) (As := []) (rest := []) X w hy0 rfl (c_Mod_isInterface l G h (cs := cs) (nw := (gm_split cs).1) (sA := (gm_split cs).2.1) (eA := (gm_split cs).2.2) (ad := ad) (fv := fv) (iv := iv) (tl := tl) hMO hL hW h0 (gm_split_0 h0)) ok_Mod_isInterface ⟨mT_1330, sT_22⟩ mT_1328 ⟨by decide, by decide⟩ rfl hl.1 rfl (Nat.le_of_ble_eq_true rfl) d_p15m28_42 ⟨by decide, by decide⟩ (fun r97 h98 H locs hp99 w => ?_)
        refine W.widen (k := 0) (n := 0) (by decide) (by decide) ?_
        obtain ⟨e100, k101, f102⟩ := hp99
        have hy103 : h98 y = some (20, .inr (10, [.ref (ad 0), .ref (ad 1), .ref (ad 2), .int (iv 3), .int (iv 4), .int (iv 5), .ref (ad 6), .ref (ad 7), .ref (ad 8), .ref (ad 9), .ref (ad 10), .ref (ad 11), .int (iv 12), .ref (ad 13), .ref (ad 14), .ref (ad 15), .ref (ad 16), .ref (ad 17), .ref (ad 18), .ref (ad 19), .int (iv 20), .ref (ad 21), .ref (ad 22), .ref (ad 23), .ref (ad 24), .ref (ad 25), .ref (ad 26), .ref (ad 27), .ref (ad 28), .int (iv 29), .ref (ad 30), .ref (ad 31), .int (iv 32), .int (iv 33), .int (iv 34), .int (iv 35), .long tl, .int (iv 37), .int (iv 38), .int (iv 39), .int (iv 40), .ref (ad 41), .ref (ad 42), .int (iv 43)])) := f102.1
        refine pd_beq (tgt := 55) hx hb d_p15m28_45 (by decide) (fun q104 => ?_) (fun q104 => ?_)
        · -- taken: 55
          have hvs2 : ∀ j, j < 2 → ¬ pd_lit (pd_vw j) = tx_sub cs ((gm_split cs).2.1 0) ((gm_split cs).2.2 0) := gm_vs hvs1 (fun z => of_decide_eq_false ((gm_vi hok h0).symm.trans (e100.symm.trans q104)) (z.symm.trans (rfl : pd_lit (pd_vw 1) = _).symm))
          refine lv_aload_n hx hb d_p15m28_55 rfl (lv_at hl 2 rfl) ?_
          refine lv_iconst (v := nI 0) hx hb d_p15m28_56 (by decide) ?_
          refine lv_ldc2 (v := 431315315046) hx hb X.2.2.2.2.1 (X.2.2.2.2.2.1 _ mT_1333) d_p15m28_57 ?_
          refine lv_iconst (v := nI 5) hx hb d_p15m28_60 (by decide) ?_
          refine pd_cV (a := y) (As := [.int (nI 0), .long 431315315046, .int (nI 5)]) (rest := []) X w hy103 rfl (c_Mod_is l G h98 (cs := cs) (nw := (gm_split cs).1) (sA := (gm_split cs).2.1) (eA := (gm_split cs).2.2) (i0 := 0) (ad := ad) (fv := fv) (iv := iv) (tl := tl) f102 hL hW h0 (by omega)) ok_Mod_is ⟨mT_1299, sT_15⟩ mT_1297 ⟨by decide, by decide⟩ rfl hl.1 rfl (Nat.le_of_ble_eq_true rfl) d_p15m28_61 ⟨by decide, by decide⟩ (fun r105 h106 H locs hp107 w => ?_)
          refine W.widen (k := 0) (n := 0) (by decide) (by decide) ?_
          obtain ⟨e108, rfl⟩ := hp107
          refine pd_beq (tgt := 74) hx hb d_p15m28_64 (by decide) (fun q109 => ?_) (fun q109 => ?_)
          · -- taken: 74
            have hvs3 : ∀ j, j < 3 → ¬ pd_lit (pd_vw j) = tx_sub cs ((gm_split cs).2.1 0) ((gm_split cs).2.2 0) := gm_vs hvs2 (fun z => of_decide_eq_false ((gm_is_eq (hok 0 h0).2).symm.trans (e108.symm.trans q109)) (z.symm.trans gm_vb_2.symm))
            refine lv_aload_n hx hb d_p15m28_74 rfl (lv_at hl 2 rfl) ?_
            refine lv_iconst (v := nI 0) hx hb d_p15m28_75 (by decide) ?_
            refine lv_ldc2 (v := 110429656606061) hx hb X.2.2.2.2.1 (X.2.2.2.2.2.1 _ mT_1367) d_p15m28_76 ?_
            refine lv_bipush (v := nI 6) hx hb d_p15m28_79 (by decide) ?_
            refine pd_cV (a := y) (As := [.int (nI 0), .long 110429656606061, .int (nI 6)]) (rest := []) X w hy103 rfl (c_Mod_is l G h98 (cs := cs) (nw := (gm_split cs).1) (sA := (gm_split cs).2.1) (eA := (gm_split cs).2.2) (i0 := 0) (ad := ad) (fv := fv) (iv := iv) (tl := tl) f102 hL hW h0 (by omega)) ok_Mod_is ⟨mT_1299, sT_15⟩ mT_1297 ⟨by decide, by decide⟩ rfl hl.1 rfl (Nat.le_of_ble_eq_true rfl) d_p15m28_81 ⟨by decide, by decide⟩ (fun r110 h111 H locs hp112 w => ?_)
            refine W.widen (k := 0) (n := 0) (by decide) (by decide) ?_
            obtain ⟨e113, rfl⟩ := hp112
            refine pd_beq (tgt := 94) hx hb d_p15m28_84 (by decide) (fun q114 => ?_) (fun q114 => ?_)
            · -- taken: 94
              have hvs4 : ∀ j, j < 4 → ¬ pd_lit (pd_vw j) = tx_sub cs ((gm_split cs).2.1 0) ((gm_split cs).2.2 0) := gm_vs hvs3 (fun z => of_decide_eq_false ((gm_is_eq (hok 0 h0).2).symm.trans (e113.symm.trans q114)) (z.symm.trans gm_vb_3.symm))
              refine lv_aload_n hx hb d_p15m28_94 rfl (lv_at hl 2 rfl) ?_
              refine lv_iconst (v := nI 0) hx hb d_p15m28_95 (by decide) ?_
              refine lv_ldc2 (v := 512970484833) hx hb X.2.2.2.2.1 (X.2.2.2.2.2.1 _ mT_1368) d_p15m28_96 ?_
              refine lv_iconst (v := nI 5) hx hb d_p15m28_99 (by decide) ?_
              refine pd_cV (a := y) (As := [.int (nI 0), .long 512970484833, .int (nI 5)]) (rest := []) X w hy103 rfl (c_Mod_is l G h98 (cs := cs) (nw := (gm_split cs).1) (sA := (gm_split cs).2.1) (eA := (gm_split cs).2.2) (i0 := 0) (ad := ad) (fv := fv) (iv := iv) (tl := tl) f102 hL hW h0 (by omega)) ok_Mod_is ⟨mT_1299, sT_15⟩ mT_1297 ⟨by decide, by decide⟩ rfl hl.1 rfl (Nat.le_of_ble_eq_true rfl) d_p15m28_100 ⟨by decide, by decide⟩ (fun r115 h116 H locs hp117 w => ?_)
              refine W.widen (k := 0) (n := 0) (by decide) (by decide) ?_
              obtain ⟨e118, rfl⟩ := hp117
              refine pd_beq (tgt := 121) hx hb d_p15m28_103 (by decide) (fun q119 => ?_) (fun q119 => ?_)
              · -- taken: 121
                have hvs5 : ∀ j, j < 5 → ¬ pd_lit (pd_vw j) = tx_sub cs ((gm_split cs).2.1 0) ((gm_split cs).2.2 0) := gm_vs hvs4 (fun z => of_decide_eq_false ((gm_is_eq (hok 0 h0).2).symm.trans (e118.symm.trans q119)) (z.symm.trans gm_vb_4.symm))
                refine lv_aload_n hx hb d_p15m28_121 rfl (lv_at hl 2 rfl) ?_
                refine lv_iconst (v := nI 0) hx hb d_p15m28_122 (by decide) ?_
                refine lv_ldc2 (v := 2037278052) hx hb X.2.2.2.2.1 (X.2.2.2.2.2.1 _ mT_1377) d_p15m28_123 ?_
                refine lv_iconst (v := nI 4) hx hb d_p15m28_126 (by decide) ?_
                refine pd_cV (a := y) (As := [.int (nI 0), .long 2037278052, .int (nI 4)]) (rest := []) X w hy103 rfl (c_Mod_is l G h98 (cs := cs) (nw := (gm_split cs).1) (sA := (gm_split cs).2.1) (eA := (gm_split cs).2.2) (i0 := 0) (ad := ad) (fv := fv) (iv := iv) (tl := tl) f102 hL hW h0 (by omega)) ok_Mod_is ⟨mT_1299, sT_15⟩ mT_1297 ⟨by decide, by decide⟩ rfl hl.1 rfl (Nat.le_of_ble_eq_true rfl) d_p15m28_127 ⟨by decide, by decide⟩ (fun r120 h121 H locs hp122 w => ?_)
                refine W.widen (k := 0) (n := 0) (by decide) (by decide) ?_
                obtain ⟨e123, rfl⟩ := hp122
                refine pd_beq (tgt := 148) hx hb d_p15m28_130 (by decide) (fun q124 => ?_) (fun q124 => ?_)
                · -- taken: 148
                  have hvs6 : ∀ j, j < 6 → ¬ pd_lit (pd_vw j) = tx_sub cs ((gm_split cs).2.1 0) ((gm_split cs).2.2 0) := gm_vs hvs5 (fun z => of_decide_eq_false ((gm_is_eq (hok 0 h0).2).symm.trans (e123.symm.trans q124)) (z.symm.trans gm_vb_5.symm))
                  refine lv_aload_n hx hb d_p15m28_148 rfl (lv_at hl 2 rfl) ?_
                  refine lv_iconst (v := nI 0) hx hb d_p15m28_149 (by decide) ?_
                  refine lv_ldc2 (v := 1953722211) hx hb X.2.2.2.2.1 (X.2.2.2.2.2.1 _ mT_1378) d_p15m28_150 ?_
                  refine lv_iconst (v := nI 4) hx hb d_p15m28_153 (by decide) ?_
                  refine pd_cV (a := y) (As := [.int (nI 0), .long 1953722211, .int (nI 4)]) (rest := []) X w hy103 rfl (c_Mod_is l G h98 (cs := cs) (nw := (gm_split cs).1) (sA := (gm_split cs).2.1) (eA := (gm_split cs).2.2) (i0 := 0) (ad := ad) (fv := fv) (iv := iv) (tl := tl) f102 hL hW h0 (by omega)) ok_Mod_is ⟨mT_1299, sT_15⟩ mT_1297 ⟨by decide, by decide⟩ rfl hl.1 rfl (Nat.le_of_ble_eq_true rfl) d_p15m28_154 ⟨by decide, by decide⟩ (fun r125 h126 H locs hp127 w => ?_)
                  refine W.widen (k := 0) (n := 0) (by decide) (by decide) ?_
                  obtain ⟨e128, rfl⟩ := hp127
                  refine pd_beq (tgt := 179) hx hb d_p15m28_157 (by decide) (fun q129 => ?_) (fun q129 => ?_)
                  · -- taken: 179
                    have hvs7 : ∀ j, j < 7 → ¬ pd_lit (pd_vw j) = tx_sub cs ((gm_split cs).2.1 0) ((gm_split cs).2.2 0) := gm_vs hvs6 (fun z => of_decide_eq_false ((gm_is_eq (hok 0 h0).2).symm.trans (e128.symm.trans q129)) (z.symm.trans gm_vb_6.symm))
                    refine lv_aload_n hx hb d_p15m28_179 rfl (lv_at hl 2 rfl) ?_
                    refine lv_iconst (v := nI 0) hx hb d_p15m28_180 (by decide) ?_
                    refine lv_ldc2 (v := 1835624563) hx hb X.2.2.2.2.1 (X.2.2.2.2.2.1 _ mT_1383) d_p15m28_181 ?_
                    refine lv_iconst (v := nI 4) hx hb d_p15m28_184 (by decide) ?_
                    refine pd_cV (a := y) (As := [.int (nI 0), .long 1835624563, .int (nI 4)]) (rest := []) X w hy103 rfl (c_Mod_is l G h98 (cs := cs) (nw := (gm_split cs).1) (sA := (gm_split cs).2.1) (eA := (gm_split cs).2.2) (i0 := 0) (ad := ad) (fv := fv) (iv := iv) (tl := tl) f102 hL hW h0 (by omega)) ok_Mod_is ⟨mT_1299, sT_15⟩ mT_1297 ⟨by decide, by decide⟩ rfl hl.1 rfl (Nat.le_of_ble_eq_true rfl) d_p15m28_185 ⟨by decide, by decide⟩ (fun r130 h131 H locs hp132 w => ?_)
                    refine W.widen (k := 0) (n := 0) (by decide) (by decide) ?_
                    obtain ⟨e133, rfl⟩ := hp132
                    refine pd_beq (tgt := 204) hx hb d_p15m28_188 (by decide) (fun q134 => ?_) (fun q134 => ?_)
                    · -- taken: 204
                      have hvs8 : ∀ j, j < 8 → ¬ pd_lit (pd_vw j) = tx_sub cs ((gm_split cs).2.1 0) ((gm_split cs).2.2 0) := gm_vs hvs7 (fun z => of_decide_eq_false ((gm_is_eq (hok 0 h0).2).symm.trans (e133.symm.trans q134)) (z.symm.trans gm_vb_7.symm))
                      refine lv_aload_n hx hb d_p15m28_204 rfl (lv_at hl 2 rfl) ?_
                      refine lv_iconst (v := nI 0) hx hb d_p15m28_205 (by decide) ?_
                      refine lv_ldc2 (v := 7824750) hx hb X.2.2.2.2.1 (X.2.2.2.2.2.1 _ mT_1388) d_p15m28_206 ?_
                      refine lv_iconst (v := nI 3) hx hb d_p15m28_209 (by decide) ?_
                      refine pd_cV (a := y) (As := [.int (nI 0), .long 7824750, .int (nI 3)]) (rest := []) X w hy103 rfl (c_Mod_is l G h98 (cs := cs) (nw := (gm_split cs).1) (sA := (gm_split cs).2.1) (eA := (gm_split cs).2.2) (i0 := 0) (ad := ad) (fv := fv) (iv := iv) (tl := tl) f102 hL hW h0 (by omega)) ok_Mod_is ⟨mT_1299, sT_15⟩ mT_1297 ⟨by decide, by decide⟩ rfl hl.1 rfl (Nat.le_of_ble_eq_true rfl) d_p15m28_210 ⟨by decide, by decide⟩ (fun r135 h136 H locs hp137 w => ?_)
                      refine W.widen (k := 0) (n := 0) (by decide) (by decide) ?_
                      obtain ⟨e138, rfl⟩ := hp137
                      refine pd_beq (tgt := 230) hx hb d_p15m28_213 (by decide) (fun q139 => ?_) (fun q139 => ?_)
                      · -- taken: 230
                        have hvs9 : ∀ j, j < 9 → ¬ pd_lit (pd_vw j) = tx_sub cs ((gm_split cs).2.1 0) ((gm_split cs).2.2 0) := gm_vs hvs8 (fun z => of_decide_eq_false ((gm_is_eq (hok 0 h0).2).symm.trans (e138.symm.trans q139)) (z.symm.trans gm_vb_8.symm))
                        refine lv_aload_n hx hb d_p15m28_230 rfl (lv_at hl 2 rfl) ?_
                        refine lv_iconst (v := nI 0) hx hb d_p15m28_231 (by decide) ?_
                        refine lv_ldc2 (v := 1953718627) hx hb X.2.2.2.2.1 (X.2.2.2.2.2.1 _ mT_1451) d_p15m28_232 ?_
                        refine lv_iconst (v := nI 4) hx hb d_p15m28_235 (by decide) ?_
                        refine pd_cV (a := y) (As := [.int (nI 0), .long 1953718627, .int (nI 4)]) (rest := []) X w hy103 rfl (c_Mod_is l G h98 (cs := cs) (nw := (gm_split cs).1) (sA := (gm_split cs).2.1) (eA := (gm_split cs).2.2) (i0 := 0) (ad := ad) (fv := fv) (iv := iv) (tl := tl) f102 hL hW h0 (by omega)) ok_Mod_is ⟨mT_1299, sT_15⟩ mT_1297 ⟨by decide, by decide⟩ rfl hl.1 rfl (Nat.le_of_ble_eq_true rfl) d_p15m28_236 ⟨by decide, by decide⟩ (fun r140 h141 H locs hp142 w => ?_)
                        refine W.widen (k := 0) (n := 0) (by decide) (by decide) ?_
                        obtain ⟨e143, rfl⟩ := hp142
                        refine pd_beq (tgt := 256) hx hb d_p15m28_239 (by decide) (fun q144 => ?_) (fun q144 => ?_)
                        · -- taken: 256
                          have hvs10 : ∀ j, j < 10 → ¬ pd_lit (pd_vw j) = tx_sub cs ((gm_split cs).2.1 0) ((gm_split cs).2.2 0) := gm_vs hvs9 (fun z => of_decide_eq_false ((gm_is_eq (hok 0 h0).2).symm.trans (e143.symm.trans q144)) (z.symm.trans gm_vb_9.symm))
                          refine lv_aload_n hx hb d_p15m28_256 rfl (lv_at hl 2 rfl) ?_
                          refine lv_iconst (v := nI 0) hx hb d_p15m28_257 (by decide) ?_
                          refine lv_ldc2 (v := 448345170275) hx hb X.2.2.2.2.1 (X.2.2.2.2.2.1 _ mT_1452) d_p15m28_258 ?_
                          refine lv_iconst (v := nI 5) hx hb d_p15m28_261 (by decide) ?_
                          refine pd_cV (a := y) (As := [.int (nI 0), .long 448345170275, .int (nI 5)]) (rest := []) X w hy103 rfl (c_Mod_is l G h98 (cs := cs) (nw := (gm_split cs).1) (sA := (gm_split cs).2.1) (eA := (gm_split cs).2.2) (i0 := 0) (ad := ad) (fv := fv) (iv := iv) (tl := tl) f102 hL hW h0 (by omega)) ok_Mod_is ⟨mT_1299, sT_15⟩ mT_1297 ⟨by decide, by decide⟩ rfl hl.1 rfl (Nat.le_of_ble_eq_true rfl) d_p15m28_262 ⟨by decide, by decide⟩ (fun r145 h146 H locs hp147 w => ?_)
                          refine W.widen (k := 0) (n := 0) (by decide) (by decide) ?_
                          obtain ⟨e148, rfl⟩ := hp147
                          refine pd_beq (tgt := 282) hx hb d_p15m28_265 (by decide) (fun q149 => ?_) (fun q149 => ?_)
                          · -- taken: 282
                            have hvs11 : ∀ j, j < 11 → ¬ pd_lit (pd_vw j) = tx_sub cs ((gm_split cs).2.1 0) ((gm_split cs).2.2 0) := gm_vs hvs10 (fun z => of_decide_eq_false ((gm_is_eq (hok 0 h0).2).symm.trans (e148.symm.trans q149)) (z.symm.trans gm_vb_10.symm))
                            refine lv_aload_n hx hb d_p15m28_282 rfl (lv_at hl 2 rfl) ?_
                            refine lv_iconst (v := nI 0) hx hb d_p15m28_283 (by decide) ?_
                            refine lv_ldc2 (v := 7628135) hx hb X.2.2.2.2.1 (X.2.2.2.2.2.1 _ mT_1453) d_p15m28_284 ?_
                            refine lv_iconst (v := nI 3) hx hb d_p15m28_287 (by decide) ?_
                            refine pd_cV (a := y) (As := [.int (nI 0), .long 7628135, .int (nI 3)]) (rest := []) X w hy103 rfl (c_Mod_is l G h98 (cs := cs) (nw := (gm_split cs).1) (sA := (gm_split cs).2.1) (eA := (gm_split cs).2.2) (i0 := 0) (ad := ad) (fv := fv) (iv := iv) (tl := tl) f102 hL hW h0 (by omega)) ok_Mod_is ⟨mT_1299, sT_15⟩ mT_1297 ⟨by decide, by decide⟩ rfl hl.1 rfl (Nat.le_of_ble_eq_true rfl) d_p15m28_288 ⟨by decide, by decide⟩ (fun r150 h151 H locs hp152 w => ?_)
                            refine W.widen (k := 0) (n := 0) (by decide) (by decide) ?_
                            obtain ⟨e153, rfl⟩ := hp152
                            refine pd_beq (tgt := 308) hx hb d_p15m28_291 (by decide) (fun q154 => ?_) (fun q154 => ?_)
                            · -- taken: 308
                              have hvs12 : ∀ j, j < 12 → ¬ pd_lit (pd_vw j) = tx_sub cs ((gm_split cs).2.1 0) ((gm_split cs).2.2 0) := gm_vs hvs11 (fun z => of_decide_eq_false ((gm_is_eq (hok 0 h0).2).symm.trans (e153.symm.trans q154)) (z.symm.trans gm_vb_11.symm))
                              refine lv_aload_n hx hb d_p15m28_308 rfl (lv_at hl 2 rfl) ?_
                              refine lv_iconst (v := nI 0) hx hb d_p15m28_309 (by decide) ?_
                              refine lv_ldc2 (v := 1819042147) hx hb X.2.2.2.2.1 (X.2.2.2.2.2.1 _ mT_1454) d_p15m28_310 ?_
                              refine lv_iconst (v := nI 4) hx hb d_p15m28_313 (by decide) ?_
                              refine pd_cV (a := y) (As := [.int (nI 0), .long 1819042147, .int (nI 4)]) (rest := []) X w hy103 rfl (c_Mod_is l G h98 (cs := cs) (nw := (gm_split cs).1) (sA := (gm_split cs).2.1) (eA := (gm_split cs).2.2) (i0 := 0) (ad := ad) (fv := fv) (iv := iv) (tl := tl) f102 hL hW h0 (by omega)) ok_Mod_is ⟨mT_1299, sT_15⟩ mT_1297 ⟨by decide, by decide⟩ rfl hl.1 rfl (Nat.le_of_ble_eq_true rfl) d_p15m28_314 ⟨by decide, by decide⟩ (fun r155 h156 H locs hp157 w => ?_)
                              refine W.widen (k := 0) (n := 0) (by decide) (by decide) ?_
                              obtain ⟨e158, rfl⟩ := hp157
                              refine pd_beq (tgt := 334) hx hb d_p15m28_317 (by decide) (fun q159 => ?_) (fun q159 => ?_)
                              · -- taken: 334
                                have hvs13 : ∀ j, j < 13 → ¬ pd_lit (pd_vw j) = tx_sub cs ((gm_split cs).2.1 0) ((gm_split cs).2.2 0) := gm_vs hvs12 (fun z => of_decide_eq_false ((gm_is_eq (hok 0 h0).2).symm.trans (e158.symm.trans q159)) (z.symm.trans gm_vb_12.symm))
                                refine lv_iconst (v := -1) hx hb d_p15m28_334 (by decide) ?_
                                exact pd_iret (v := (-1)) X w (gm_Q_no h0 hvs13 ((pd_kx.mono (us := pd_wk) (k101) (by decide))) f102 hR) (by decide) (by decide) d_p15m28_335
                              · -- not taken: 320
                                have hlit : pd_lit (pd_vw 12) = tx_sub cs ((gm_split cs).2.1 0) ((gm_split cs).2.2 0) := ((of_decide_eq_true ((gm_is_eq (hok 0 h0).2).symm.trans (e158.symm.trans q159))).trans gm_vb_12).symm
                                refine lv_iload_n hx hb d_p15m28_320 rfl (lv_at hl 0 rfl) ?_
                                refine pd_zeq (tgt := 332) hx hb d_p15m28_321 (by decide) (by decide) (fun q => absurd q (by decide)) (fun _ => ?_)
                                refine lv_aload_n hx hb d_p15m28_324 rfl (lv_at hl 2 rfl) ?_
                                refine lv_iconst (v := nI 5) hx hb d_p15m28_325 (by decide) ?_
                                refine pd_cV (a := y) (As := [.int (nI 5)]) (rest := []) X w hy103 rfl (c_W_12 l G h98 (cs := cs) (n := n) (R := R) (k := k) (M := M) (u := u) (U := U) (T := T) (kp := kp) (nx := nx) (sp := sp) (an := an) (gn := gn) (sn := sn) (dn := dn) (ad := ad) (fv := fv) (iv := iv) (tl := tl) f102 hL hR hI hW han (by omega)) ok_W_12 ⟨mT_1391, sT_35⟩ mT_1389 ⟨by decide, by decide⟩ rfl hl.1 rfl (Nat.le_of_ble_eq_true rfl) d_p15m28_326 ⟨by decide, by decide⟩ (fun r161 h162 H locs hp163 w => ?_)
                                refine W.widen (k := 0) (n := 0) (by decide) (by decide) ?_
                                refine lv_goto (tgt := 333) hx hb d_p15m28_329 (by decide) ?_
                                exact pd_iret (v := r161) X w (gm_Q_of hok h0 (by decide) hvs12 hlit ((pd_kx.mono (us := pd_wk) (k101) (by decide))) hp163) (by decide) (by decide) d_p15m28_333
                            · -- not taken: 294
                              have hlit : pd_lit (pd_vw 11) = tx_sub cs ((gm_split cs).2.1 0) ((gm_split cs).2.2 0) := ((of_decide_eq_true ((gm_is_eq (hok 0 h0).2).symm.trans (e153.symm.trans q154))).trans gm_vb_11).symm
                              refine lv_iload_n hx hb d_p15m28_294 rfl (lv_at hl 0 rfl) ?_
                              refine pd_zeq (tgt := 306) hx hb d_p15m28_295 (by decide) (by decide) (fun q => absurd q (by decide)) (fun _ => ?_)
                              refine lv_aload_n hx hb d_p15m28_298 rfl (lv_at hl 2 rfl) ?_
                              refine lv_iconst (v := nI 4) hx hb d_p15m28_299 (by decide) ?_
                              refine pd_cV (a := y) (As := [.int (nI 4)]) (rest := []) X w hy103 rfl (c_W_11 l G h98 (cs := cs) (n := n) (R := R) (k := k) (M := M) (u := u) (U := U) (T := T) (kp := kp) (nx := nx) (sp := sp) (an := an) (gn := gn) (sn := sn) (dn := dn) (ad := ad) (fv := fv) (iv := iv) (tl := tl) f102 hL hR hI hW han (by omega)) ok_W_11 ⟨mT_1391, sT_35⟩ mT_1389 ⟨by decide, by decide⟩ rfl hl.1 rfl (Nat.le_of_ble_eq_true rfl) d_p15m28_300 ⟨by decide, by decide⟩ (fun r165 h166 H locs hp167 w => ?_)
                              refine W.widen (k := 0) (n := 0) (by decide) (by decide) ?_
                              refine lv_goto (tgt := 307) hx hb d_p15m28_303 (by decide) ?_
                              exact pd_iret (v := r165) X w (gm_Q_of hok h0 (by decide) hvs11 hlit ((pd_kx.mono (us := pd_wk) (k101) (by decide))) hp167) (by decide) (by decide) d_p15m28_307
                          · -- not taken: 268
                            have hlit : pd_lit (pd_vw 10) = tx_sub cs ((gm_split cs).2.1 0) ((gm_split cs).2.2 0) := ((of_decide_eq_true ((gm_is_eq (hok 0 h0).2).symm.trans (e148.symm.trans q149))).trans gm_vb_10).symm
                            refine lv_iload_n hx hb d_p15m28_268 rfl (lv_at hl 1 rfl) ?_
                            refine pd_zeq (tgt := 280) hx hb d_p15m28_269 (by decide) (by decide) (fun _ => ?_) (fun q => absurd q (by decide))
                            refine lv_iconst (v := -1) hx hb d_p15m28_280 (by decide) ?_
                            exact pd_iret (v := (-1)) X w (gm_Q_of hok h0 (by decide) hvs10 hlit ((pd_kx.mono (us := pd_wk) (k101) (by decide))) (gm_P_no f102 hR (gm_sn_10 (by omega)))) (by decide) (by decide) d_p15m28_281
                        · -- not taken: 242
                          have hlit : pd_lit (pd_vw 9) = tx_sub cs ((gm_split cs).2.1 0) ((gm_split cs).2.2 0) := ((of_decide_eq_true ((gm_is_eq (hok 0 h0).2).symm.trans (e143.symm.trans q144))).trans gm_vb_9).symm
                          refine lv_iload_n hx hb d_p15m28_242 rfl (lv_at hl 1 rfl) ?_
                          refine pd_zeq (tgt := 254) hx hb d_p15m28_243 (by decide) (by decide) (fun _ => ?_) (fun q => absurd q (by decide))
                          refine lv_iconst (v := -1) hx hb d_p15m28_254 (by decide) ?_
                          exact pd_iret (v := (-1)) X w (gm_Q_of hok h0 (by decide) hvs9 hlit ((pd_kx.mono (us := pd_wk) (k101) (by decide))) (gm_P_no f102 hR (gm_sn_9 (by omega)))) (by decide) (by decide) d_p15m28_255
                      · -- not taken: 216
                        have hlit : pd_lit (pd_vw 8) = tx_sub cs ((gm_split cs).2.1 0) ((gm_split cs).2.2 0) := ((of_decide_eq_true ((gm_is_eq (hok 0 h0).2).symm.trans (e138.symm.trans q139))).trans gm_vb_8).symm
                        refine lv_iload_n hx hb d_p15m28_216 rfl (lv_at hl 1 rfl) ?_
                        refine pd_zeq (tgt := 228) hx hb d_p15m28_217 (by decide) (by decide) (fun _ => ?_) (fun q => absurd q (by decide))
                        refine lv_iconst (v := -1) hx hb d_p15m28_228 (by decide) ?_
                        exact pd_iret (v := (-1)) X w (gm_Q_of hok h0 (by decide) hvs8 hlit ((pd_kx.mono (us := pd_wk) (k101) (by decide))) (gm_P_no f102 hR (gm_sn_8 (by omega)))) (by decide) (by decide) d_p15m28_229
                    · -- not taken: 191
                      have hlit : pd_lit (pd_vw 7) = tx_sub cs ((gm_split cs).2.1 0) ((gm_split cs).2.2 0) := ((of_decide_eq_true ((gm_is_eq (hok 0 h0).2).symm.trans (e133.symm.trans q134))).trans gm_vb_7).symm
                      refine lv_iload_n hx hb d_p15m28_191 rfl (lv_at hl 0 rfl) ?_
                      refine pd_zeq (tgt := 202) hx hb d_p15m28_192 (by decide) (by decide) (fun q => absurd q (by decide)) (fun _ => ?_)
                      refine lv_aload_n hx hb d_p15m28_195 rfl (lv_at hl 2 rfl) ?_
                      refine pd_cV (a := y) (As := []) (rest := []) X w hy103 rfl (c_W_7 l G h98 (cs := cs) (n := n) (R := R) (k := k) (M := M) (u := u) (U := U) (T := T) (kp := kp) (nx := nx) (sp := sp) (an := an) (gn := gn) (sn := sn) (dn := dn) (ad := ad) (fv := fv) (iv := iv) (tl := tl) f102 hL hR hI hW han (by omega)) ok_W_7 ⟨mT_1386, sT_34⟩ mT_1384 ⟨by decide, by decide⟩ rfl hl.1 rfl (Nat.le_of_ble_eq_true rfl) d_p15m28_196 ⟨by decide, by decide⟩ (fun r172 h173 H locs hp174 w => ?_)
                      refine W.widen (k := 0) (n := 0) (by decide) (by decide) ?_
                      refine lv_goto (tgt := 203) hx hb d_p15m28_199 (by decide) ?_
                      exact pd_iret (v := r172) X w (gm_Q_of hok h0 (by decide) hvs7 hlit ((pd_kx.mono (us := pd_wk) (k101) (by decide))) hp174) (by decide) (by decide) d_p15m28_203
                  · -- not taken: 160
                    have hlit : pd_lit (pd_vw 6) = tx_sub cs ((gm_split cs).2.1 0) ((gm_split cs).2.2 0) := ((of_decide_eq_true ((gm_is_eq (hok 0 h0).2).symm.trans (e128.symm.trans q129))).trans gm_vb_6).symm
                    refine lv_iload_n hx hb d_p15m28_160 rfl (lv_at hl 0 rfl) ?_
                    refine pd_zeq (tgt := 177) hx hb d_p15m28_161 (by decide) (by decide) (fun q => absurd q (by decide)) (fun _ => ?_)
                    refine lv_aload_n hx hb d_p15m28_164 rfl (lv_at hl 2 rfl) ?_
                    refine lv_iconst (v := nI 2) hx hb d_p15m28_165 (by decide) ?_
                    refine lv_aload_n hx hb d_p15m28_166 rfl (lv_at hl 2 rfl) ?_
                    refine lv_iconst (v := nI 2) hx hb d_p15m28_167 (by decide) ?_
                    refine pd_cV (a := y) (As := [.int (nI 2)]) (rest := [.int (nI 2), .ref y]) X w hy103 rfl (c_Mod_numberOf l G h98 (cs := cs) (nw := (gm_split cs).1) (sA := (gm_split cs).2.1) (eA := (gm_split cs).2.2) (i0 := 2) (ad := ad) (fv := fv) (iv := iv) (tl := tl) f102 hL hW (by omega)) ok_Mod_numberOf ⟨mT_1381, sT_33⟩ mT_1379 ⟨by decide, by decide⟩ rfl hl.1 rfl (Nat.le_of_ble_eq_true rfl) d_p15m28_168 ⟨by decide, by decide⟩ (fun r176 h177 H locs hp178 w => ?_)
                    refine W.widen (k := 0) (n := 0) (by decide) (by decide) ?_
                    obtain ⟨e179, rfl⟩ := hp178
                    refine pd_cV (a := y) (As := [.int (nI 2), .int (pd_m r176)]) (rest := []) X w hy103 rfl (c_W_6 l G h98 (cs := cs) (n := n) (R := R) (k := k) (M := M) (u := u) (U := U) (T := T) (kp := kp) (nx := nx) (sp := sp) (an := an) (gn := gn) (sn := sn) (dn := dn) (o := r176) (ad := ad) (fv := fv) (iv := iv) (tl := tl) f102 hL hR hI hW han (by omega) e179) ok_W_6 ⟨mT_1371, sT_31⟩ mT_1369 ⟨by decide, by decide⟩ rfl hl.1 rfl (Nat.le_of_ble_eq_true rfl) d_p15m28_171 ⟨by decide, by decide⟩ (fun r180 h181 H locs hp182 w => ?_)
                    refine W.widen (k := 0) (n := 0) (by decide) (by decide) ?_
                    refine lv_goto (tgt := 178) hx hb d_p15m28_174 (by decide) ?_
                    exact pd_iret (v := r180) X w (gm_Q_of hok h0 (by decide) hvs6 hlit ((pd_kx.mono (us := pd_wk) (k101) (by decide))) hp182) (by decide) (by decide) d_p15m28_178
                · -- not taken: 133
                  have hlit : pd_lit (pd_vw 5) = tx_sub cs ((gm_split cs).2.1 0) ((gm_split cs).2.2 0) := ((of_decide_eq_true ((gm_is_eq (hok 0 h0).2).symm.trans (e123.symm.trans q124))).trans gm_vb_5).symm
                  refine lv_iload_n hx hb d_p15m28_133 rfl (lv_at hl 1 rfl) ?_
                  refine pd_zeq (tgt := 146) hx hb d_p15m28_134 (by decide) (by decide) (fun _ => ?_) (fun q => absurd q (by decide))
                  refine lv_iconst (v := -1) hx hb d_p15m28_146 (by decide) ?_
                  exact pd_iret (v := (-1)) X w (gm_Q_of hok h0 (by decide) hvs5 hlit ((pd_kx.mono (us := pd_wk) (k101) (by decide))) (gm_P_no f102 hR (gm_sn_5 (by omega)))) (by decide) (by decide) d_p15m28_147
              · -- not taken: 106
                have hlit : pd_lit (pd_vw 4) = tx_sub cs ((gm_split cs).2.1 0) ((gm_split cs).2.2 0) := ((of_decide_eq_true ((gm_is_eq (hok 0 h0).2).symm.trans (e118.symm.trans q119))).trans gm_vb_4).symm
                refine lv_iload_n hx hb d_p15m28_106 rfl (lv_at hl 1 rfl) ?_
                refine pd_zeq (tgt := 119) hx hb d_p15m28_107 (by decide) (by decide) (fun _ => ?_) (fun q => absurd q (by decide))
                refine lv_iconst (v := -1) hx hb d_p15m28_119 (by decide) ?_
                exact pd_iret (v := (-1)) X w (gm_Q_of hok h0 (by decide) hvs4 hlit ((pd_kx.mono (us := pd_wk) (k101) (by decide))) (gm_P_no f102 hR (gm_sn_4 (by omega)))) (by decide) (by decide) d_p15m28_120
            · -- not taken: 87
              have hlit : pd_lit (pd_vw 3) = tx_sub cs ((gm_split cs).2.1 0) ((gm_split cs).2.2 0) := ((of_decide_eq_true ((gm_is_eq (hok 0 h0).2).symm.trans (e113.symm.trans q114))).trans gm_vb_3).symm
              refine lv_aload_n hx hb d_p15m28_87 rfl (lv_at hl 2 rfl) ?_
              refine lv_iload_n hx hb d_p15m28_88 rfl (lv_at hl 3 rfl) ?_
              refine lv_iconst (v := nI 1) hx hb d_p15m28_89 (by decide) ?_
              refine pd_cV (a := y) (As := [.int (nI ((gm_split cs).1)), .int (nI 1)]) (rest := []) X w hy103 rfl (c_W_3 l G h98 (cs := cs) (n := n) (R := R) (k := k) (M := M) (u := u) (U := U) (T := T) (kp := kp) (nx := nx) (sp := sp) (an := an) (gn := gn) (sn := sn) (dn := dn) (ad := ad) (fv := fv) (iv := iv) (tl := tl) f102 hL hR hI hW han) ok_W_3 ⟨mT_1336, sT_23⟩ mT_1334 ⟨by decide, by decide⟩ rfl hl.1 rfl (Nat.le_of_ble_eq_true rfl) d_p15m28_90 ⟨by decide, by decide⟩ (fun r185 h186 H locs hp187 w => ?_)
              refine W.widen (k := 0) (n := 0) (by decide) (by decide) ?_
              exact pd_iret (v := r185) X w (gm_Q_of hok h0 (by decide) hvs3 hlit ((pd_kx.mono (us := pd_wk) (k101) (by decide))) hp187) (by decide) (by decide) d_p15m28_93
          · -- not taken: 67
            have hlit : pd_lit (pd_vw 2) = tx_sub cs ((gm_split cs).2.1 0) ((gm_split cs).2.2 0) := ((of_decide_eq_true ((gm_is_eq (hok 0 h0).2).symm.trans (e108.symm.trans q109))).trans gm_vb_2).symm
            refine lv_aload_n hx hb d_p15m28_67 rfl (lv_at hl 2 rfl) ?_
            refine lv_iload_n hx hb d_p15m28_68 rfl (lv_at hl 3 rfl) ?_
            refine lv_iconst (v := nI 0) hx hb d_p15m28_69 (by decide) ?_
            refine pd_cV (a := y) (As := [.int (nI ((gm_split cs).1)), .int (nI 0)]) (rest := []) X w hy103 rfl (c_W_2 l G h98 (cs := cs) (n := n) (R := R) (k := k) (M := M) (u := u) (U := U) (T := T) (kp := kp) (nx := nx) (sp := sp) (an := an) (gn := gn) (sn := sn) (dn := dn) (ad := ad) (fv := fv) (iv := iv) (tl := tl) f102 hL hR hI hW han) ok_W_2 ⟨mT_1336, sT_23⟩ mT_1334 ⟨by decide, by decide⟩ rfl hl.1 rfl (Nat.le_of_ble_eq_true rfl) d_p15m28_70 ⟨by decide, by decide⟩ (fun r188 h189 H locs hp190 w => ?_)
            refine W.widen (k := 0) (n := 0) (by decide) (by decide) ?_
            exact pd_iret (v := r188) X w (gm_Q_of hok h0 (by decide) hvs2 hlit ((pd_kx.mono (us := pd_wk) (k101) (by decide))) hp190) (by decide) (by decide) d_p15m28_73
        · -- not taken: 48
          have hlit : pd_lit (pd_vw 1) = tx_sub cs ((gm_split cs).2.1 0) ((gm_split cs).2.2 0) := (of_decide_eq_true ((gm_vi hok h0).symm.trans (e100.symm.trans q104))).symm
          refine lv_aload_n hx hb d_p15m28_48 rfl (lv_at hl 2 rfl) ?_
          refine lv_iload_n hx hb d_p15m28_49 rfl (lv_at hl 3 rfl) ?_
          refine lv_iconst (v := nI 1) hx hb d_p15m28_50 (by decide) ?_
          refine pd_cV (a := y) (As := [.int (nI ((gm_split cs).1)), .int (nI 1)]) (rest := []) X w hy103 rfl (c_W_1 l G h98 (cs := cs) (n := n) (R := R) (k := k) (M := M) (u := u) (U := U) (T := T) (kp := kp) (nx := nx) (sp := sp) (an := an) (gn := gn) (sn := sn) (dn := dn) (ad := ad) (fv := fv) (iv := iv) (tl := tl) f102 hL hR hI hW han) ok_W_1 ⟨mT_1303, sT_16⟩ mT_1301 ⟨by decide, by decide⟩ rfl hl.1 rfl (Nat.le_of_ble_eq_true rfl) d_p15m28_51 ⟨by decide, by decide⟩ (fun r191 h192 H locs hp193 w => ?_)
          refine W.widen (k := 0) (n := 0) (by decide) (by decide) ?_
          exact pd_iret (v := r191) X w (gm_Q_of hok h0 (by decide) hvs1 hlit ((pd_kx.mono (us := pd_wk) (k101) (by decide))) hp193) (by decide) (by decide) d_p15m28_54
      · -- not taken: 34
        have hlit : pd_lit (pd_vw 0) = tx_sub cs ((gm_split cs).2.1 0) ((gm_split cs).2.2 0) := ((of_decide_eq_true ((gm_is_eq (hok 0 h0).2).symm.trans (e95.symm.trans q96))).trans gm_vb_0).symm
        refine lv_aload_n hx hb d_p15m28_34 rfl (lv_at hl 2 rfl) ?_
        refine lv_iload_n hx hb d_p15m28_35 rfl (lv_at hl 3 rfl) ?_
        refine lv_iconst (v := nI 0) hx hb d_p15m28_36 (by decide) ?_
        refine pd_cV (a := y) (As := [.int (nI ((gm_split cs).1)), .int (nI 0)]) (rest := []) X w hy0 rfl (c_W_0 l G h (cs := cs) (n := n) (R := R) (k := k) (M := M) (u := u) (U := U) (T := T) (kp := kp) (nx := nx) (sp := sp) (an := an) (gn := gn) (sn := sn) (dn := dn) (ad := ad) (fv := fv) (iv := iv) (tl := tl) hMO hL hR hI hW han) ok_W_0 ⟨mT_1303, sT_16⟩ mT_1301 ⟨by decide, by decide⟩ rfl hl.1 rfl (Nat.le_of_ble_eq_true rfl) d_p15m28_37 ⟨by decide, by decide⟩ (fun r194 h195 H locs hp196 w => ?_)
        refine W.widen (k := 0) (n := 0) (by decide) (by decide) ?_
        exact pd_iret (v := r194) X w (gm_Q_of hok h0 (by decide) hvs0 hlit (pd_kx.rf) hp196) (by decide) (by decide) d_p15m28_40
  · -- not taken: 5
    refine lv_iconst (v := nI 1) hx hb d_p15m28_5 (by decide) ?_
    refine lv_goto (tgt := 10) hx hb d_p15m28_6 (by decide) ?_
    refine lv_istore_n (lv' := [(2, .int (nI 1)), (0, .ref y), (1, .int (nI ((gm_split cs).1)))]) hx hb d_p15m28_10 rfl hl (by decide) rfl (fun ls hl => ?_)
    refine lv_iload_n hx hb d_p15m28_11 rfl (lv_at hl 2 rfl) ?_
    refine lv_iconst (v := nI 3) hx hb d_p15m28_12 (by decide) ?_
    refine pd_jne (tgt := 20) hx hb d_p15m28_13 (by decide) (by omega) (by omega) (fun q197 => ?_) (fun q197 => ?_)
    · -- taken: 20
      refine lv_iconst (v := nI 0) hx hb d_p15m28_20 (by decide) ?_
      refine lv_istore_n (lv' := [(3, .int (nI 0)), (2, .int (nI 1)), (0, .ref y), (1, .int (nI ((gm_split cs).1)))]) hx hb d_p15m28_21 rfl hl (by decide) rfl (fun ls hl => ?_)
      refine lv_aload_n hx hb d_p15m28_22 rfl (lv_at hl 2 rfl) ?_
      refine lv_iconst (v := nI 0) hx hb d_p15m28_23 (by decide) ?_
      refine lv_ldc2 (v := 495857003619) hx hb X.2.2.2.2.1 (X.2.2.2.2.2.1 _ mT_1296) d_p15m28_24 ?_
      refine lv_iconst (v := nI 5) hx hb d_p15m28_27 (by decide) ?_
      refine pd_cV (a := y) (As := [.int (nI 0), .long 495857003619, .int (nI 5)]) (rest := []) X w hy0 rfl (c_Mod_is l G h (cs := cs) (nw := (gm_split cs).1) (sA := (gm_split cs).2.1) (eA := (gm_split cs).2.2) (i0 := 0) (ad := ad) (fv := fv) (iv := iv) (tl := tl) hMO hL hW h0 (by omega)) ok_Mod_is ⟨mT_1299, sT_15⟩ mT_1297 ⟨by decide, by decide⟩ rfl hl.1 rfl (Nat.le_of_ble_eq_true rfl) d_p15m28_28 ⟨by decide, by decide⟩ (fun r198 h199 H locs hp200 w => ?_)
      refine W.widen (k := 0) (n := 0) (by decide) (by decide) ?_
      obtain ⟨e201, rfl⟩ := hp200
      refine pd_beq (tgt := 41) hx hb d_p15m28_31 (by decide) (fun q202 => ?_) (fun q202 => ?_)
      · -- taken: 41
        have hvs1 : ∀ j, j < 1 → ¬ pd_lit (pd_vw j) = tx_sub cs ((gm_split cs).2.1 0) ((gm_split cs).2.2 0) := gm_vs hvs0 (fun z => of_decide_eq_false ((gm_is_eq (hok 0 h0).2).symm.trans (e201.symm.trans q202)) (z.symm.trans gm_vb_0.symm))
        refine lv_aload_n hx hb d_p15m28_41 rfl (lv_at hl 2 rfl) ?_
        refine pd_cV (a := y) (As := []) (rest := []) X w hy0 rfl (c_Mod_isInterface l G h (cs := cs) (nw := (gm_split cs).1) (sA := (gm_split cs).2.1) (eA := (gm_split cs).2.2) (ad := ad) (fv := fv) (iv := iv) (tl := tl) hMO hL hW h0 (gm_split_0 h0)) ok_Mod_isInterface ⟨mT_1330, sT_22⟩ mT_1328 ⟨by decide, by decide⟩ rfl hl.1 rfl (Nat.le_of_ble_eq_true rfl) d_p15m28_42 ⟨by decide, by decide⟩ (fun r203 h204 H locs hp205 w => ?_)
        refine W.widen (k := 0) (n := 0) (by decide) (by decide) ?_
        obtain ⟨e206, k207, f208⟩ := hp205
        have hy209 : h204 y = some (20, .inr (10, [.ref (ad 0), .ref (ad 1), .ref (ad 2), .int (iv 3), .int (iv 4), .int (iv 5), .ref (ad 6), .ref (ad 7), .ref (ad 8), .ref (ad 9), .ref (ad 10), .ref (ad 11), .int (iv 12), .ref (ad 13), .ref (ad 14), .ref (ad 15), .ref (ad 16), .ref (ad 17), .ref (ad 18), .ref (ad 19), .int (iv 20), .ref (ad 21), .ref (ad 22), .ref (ad 23), .ref (ad 24), .ref (ad 25), .ref (ad 26), .ref (ad 27), .ref (ad 28), .int (iv 29), .ref (ad 30), .ref (ad 31), .int (iv 32), .int (iv 33), .int (iv 34), .int (iv 35), .long tl, .int (iv 37), .int (iv 38), .int (iv 39), .int (iv 40), .ref (ad 41), .ref (ad 42), .int (iv 43)])) := f208.1
        refine pd_beq (tgt := 55) hx hb d_p15m28_45 (by decide) (fun q210 => ?_) (fun q210 => ?_)
        · -- taken: 55
          have hvs2 : ∀ j, j < 2 → ¬ pd_lit (pd_vw j) = tx_sub cs ((gm_split cs).2.1 0) ((gm_split cs).2.2 0) := gm_vs hvs1 (fun z => of_decide_eq_false ((gm_vi hok h0).symm.trans (e206.symm.trans q210)) (z.symm.trans (rfl : pd_lit (pd_vw 1) = _).symm))
          refine lv_aload_n hx hb d_p15m28_55 rfl (lv_at hl 2 rfl) ?_
          refine lv_iconst (v := nI 0) hx hb d_p15m28_56 (by decide) ?_
          refine lv_ldc2 (v := 431315315046) hx hb X.2.2.2.2.1 (X.2.2.2.2.2.1 _ mT_1333) d_p15m28_57 ?_
          refine lv_iconst (v := nI 5) hx hb d_p15m28_60 (by decide) ?_
          refine pd_cV (a := y) (As := [.int (nI 0), .long 431315315046, .int (nI 5)]) (rest := []) X w hy209 rfl (c_Mod_is l G h204 (cs := cs) (nw := (gm_split cs).1) (sA := (gm_split cs).2.1) (eA := (gm_split cs).2.2) (i0 := 0) (ad := ad) (fv := fv) (iv := iv) (tl := tl) f208 hL hW h0 (by omega)) ok_Mod_is ⟨mT_1299, sT_15⟩ mT_1297 ⟨by decide, by decide⟩ rfl hl.1 rfl (Nat.le_of_ble_eq_true rfl) d_p15m28_61 ⟨by decide, by decide⟩ (fun r211 h212 H locs hp213 w => ?_)
          refine W.widen (k := 0) (n := 0) (by decide) (by decide) ?_
          obtain ⟨e214, rfl⟩ := hp213
          refine pd_beq (tgt := 74) hx hb d_p15m28_64 (by decide) (fun q215 => ?_) (fun q215 => ?_)
          · -- taken: 74
            have hvs3 : ∀ j, j < 3 → ¬ pd_lit (pd_vw j) = tx_sub cs ((gm_split cs).2.1 0) ((gm_split cs).2.2 0) := gm_vs hvs2 (fun z => of_decide_eq_false ((gm_is_eq (hok 0 h0).2).symm.trans (e214.symm.trans q215)) (z.symm.trans gm_vb_2.symm))
            refine lv_aload_n hx hb d_p15m28_74 rfl (lv_at hl 2 rfl) ?_
            refine lv_iconst (v := nI 0) hx hb d_p15m28_75 (by decide) ?_
            refine lv_ldc2 (v := 110429656606061) hx hb X.2.2.2.2.1 (X.2.2.2.2.2.1 _ mT_1367) d_p15m28_76 ?_
            refine lv_bipush (v := nI 6) hx hb d_p15m28_79 (by decide) ?_
            refine pd_cV (a := y) (As := [.int (nI 0), .long 110429656606061, .int (nI 6)]) (rest := []) X w hy209 rfl (c_Mod_is l G h204 (cs := cs) (nw := (gm_split cs).1) (sA := (gm_split cs).2.1) (eA := (gm_split cs).2.2) (i0 := 0) (ad := ad) (fv := fv) (iv := iv) (tl := tl) f208 hL hW h0 (by omega)) ok_Mod_is ⟨mT_1299, sT_15⟩ mT_1297 ⟨by decide, by decide⟩ rfl hl.1 rfl (Nat.le_of_ble_eq_true rfl) d_p15m28_81 ⟨by decide, by decide⟩ (fun r216 h217 H locs hp218 w => ?_)
            refine W.widen (k := 0) (n := 0) (by decide) (by decide) ?_
            obtain ⟨e219, rfl⟩ := hp218
            refine pd_beq (tgt := 94) hx hb d_p15m28_84 (by decide) (fun q220 => ?_) (fun q220 => ?_)
            · -- taken: 94
              have hvs4 : ∀ j, j < 4 → ¬ pd_lit (pd_vw j) = tx_sub cs ((gm_split cs).2.1 0) ((gm_split cs).2.2 0) := gm_vs hvs3 (fun z => of_decide_eq_false ((gm_is_eq (hok 0 h0).2).symm.trans (e219.symm.trans q220)) (z.symm.trans gm_vb_3.symm))
              refine lv_aload_n hx hb d_p15m28_94 rfl (lv_at hl 2 rfl) ?_
              refine lv_iconst (v := nI 0) hx hb d_p15m28_95 (by decide) ?_
              refine lv_ldc2 (v := 512970484833) hx hb X.2.2.2.2.1 (X.2.2.2.2.2.1 _ mT_1368) d_p15m28_96 ?_
              refine lv_iconst (v := nI 5) hx hb d_p15m28_99 (by decide) ?_
              refine pd_cV (a := y) (As := [.int (nI 0), .long 512970484833, .int (nI 5)]) (rest := []) X w hy209 rfl (c_Mod_is l G h204 (cs := cs) (nw := (gm_split cs).1) (sA := (gm_split cs).2.1) (eA := (gm_split cs).2.2) (i0 := 0) (ad := ad) (fv := fv) (iv := iv) (tl := tl) f208 hL hW h0 (by omega)) ok_Mod_is ⟨mT_1299, sT_15⟩ mT_1297 ⟨by decide, by decide⟩ rfl hl.1 rfl (Nat.le_of_ble_eq_true rfl) d_p15m28_100 ⟨by decide, by decide⟩ (fun r221 h222 H locs hp223 w => ?_)
              refine W.widen (k := 0) (n := 0) (by decide) (by decide) ?_
              obtain ⟨e224, rfl⟩ := hp223
              refine pd_beq (tgt := 121) hx hb d_p15m28_103 (by decide) (fun q225 => ?_) (fun q225 => ?_)
              · -- taken: 121
                have hvs5 : ∀ j, j < 5 → ¬ pd_lit (pd_vw j) = tx_sub cs ((gm_split cs).2.1 0) ((gm_split cs).2.2 0) := gm_vs hvs4 (fun z => of_decide_eq_false ((gm_is_eq (hok 0 h0).2).symm.trans (e224.symm.trans q225)) (z.symm.trans gm_vb_4.symm))
                refine lv_aload_n hx hb d_p15m28_121 rfl (lv_at hl 2 rfl) ?_
                refine lv_iconst (v := nI 0) hx hb d_p15m28_122 (by decide) ?_
                refine lv_ldc2 (v := 2037278052) hx hb X.2.2.2.2.1 (X.2.2.2.2.2.1 _ mT_1377) d_p15m28_123 ?_
                refine lv_iconst (v := nI 4) hx hb d_p15m28_126 (by decide) ?_
                refine pd_cV (a := y) (As := [.int (nI 0), .long 2037278052, .int (nI 4)]) (rest := []) X w hy209 rfl (c_Mod_is l G h204 (cs := cs) (nw := (gm_split cs).1) (sA := (gm_split cs).2.1) (eA := (gm_split cs).2.2) (i0 := 0) (ad := ad) (fv := fv) (iv := iv) (tl := tl) f208 hL hW h0 (by omega)) ok_Mod_is ⟨mT_1299, sT_15⟩ mT_1297 ⟨by decide, by decide⟩ rfl hl.1 rfl (Nat.le_of_ble_eq_true rfl) d_p15m28_127 ⟨by decide, by decide⟩ (fun r226 h227 H locs hp228 w => ?_)
                refine W.widen (k := 0) (n := 0) (by decide) (by decide) ?_
                obtain ⟨e229, rfl⟩ := hp228
                refine pd_beq (tgt := 148) hx hb d_p15m28_130 (by decide) (fun q230 => ?_) (fun q230 => ?_)
                · -- taken: 148
                  have hvs6 : ∀ j, j < 6 → ¬ pd_lit (pd_vw j) = tx_sub cs ((gm_split cs).2.1 0) ((gm_split cs).2.2 0) := gm_vs hvs5 (fun z => of_decide_eq_false ((gm_is_eq (hok 0 h0).2).symm.trans (e229.symm.trans q230)) (z.symm.trans gm_vb_5.symm))
                  refine lv_aload_n hx hb d_p15m28_148 rfl (lv_at hl 2 rfl) ?_
                  refine lv_iconst (v := nI 0) hx hb d_p15m28_149 (by decide) ?_
                  refine lv_ldc2 (v := 1953722211) hx hb X.2.2.2.2.1 (X.2.2.2.2.2.1 _ mT_1378) d_p15m28_150 ?_
                  refine lv_iconst (v := nI 4) hx hb d_p15m28_153 (by decide) ?_
                  refine pd_cV (a := y) (As := [.int (nI 0), .long 1953722211, .int (nI 4)]) (rest := []) X w hy209 rfl (c_Mod_is l G h204 (cs := cs) (nw := (gm_split cs).1) (sA := (gm_split cs).2.1) (eA := (gm_split cs).2.2) (i0 := 0) (ad := ad) (fv := fv) (iv := iv) (tl := tl) f208 hL hW h0 (by omega)) ok_Mod_is ⟨mT_1299, sT_15⟩ mT_1297 ⟨by decide, by decide⟩ rfl hl.1 rfl (Nat.le_of_ble_eq_true rfl) d_p15m28_154 ⟨by decide, by decide⟩ (fun r231 h232 H locs hp233 w => ?_)
                  refine W.widen (k := 0) (n := 0) (by decide) (by decide) ?_
                  obtain ⟨e234, rfl⟩ := hp233
                  refine pd_beq (tgt := 179) hx hb d_p15m28_157 (by decide) (fun q235 => ?_) (fun q235 => ?_)
                  · -- taken: 179
                    have hvs7 : ∀ j, j < 7 → ¬ pd_lit (pd_vw j) = tx_sub cs ((gm_split cs).2.1 0) ((gm_split cs).2.2 0) := gm_vs hvs6 (fun z => of_decide_eq_false ((gm_is_eq (hok 0 h0).2).symm.trans (e234.symm.trans q235)) (z.symm.trans gm_vb_6.symm))
                    refine lv_aload_n hx hb d_p15m28_179 rfl (lv_at hl 2 rfl) ?_
                    refine lv_iconst (v := nI 0) hx hb d_p15m28_180 (by decide) ?_
                    refine lv_ldc2 (v := 1835624563) hx hb X.2.2.2.2.1 (X.2.2.2.2.2.1 _ mT_1383) d_p15m28_181 ?_
                    refine lv_iconst (v := nI 4) hx hb d_p15m28_184 (by decide) ?_
                    refine pd_cV (a := y) (As := [.int (nI 0), .long 1835624563, .int (nI 4)]) (rest := []) X w hy209 rfl (c_Mod_is l G h204 (cs := cs) (nw := (gm_split cs).1) (sA := (gm_split cs).2.1) (eA := (gm_split cs).2.2) (i0 := 0) (ad := ad) (fv := fv) (iv := iv) (tl := tl) f208 hL hW h0 (by omega)) ok_Mod_is ⟨mT_1299, sT_15⟩ mT_1297 ⟨by decide, by decide⟩ rfl hl.1 rfl (Nat.le_of_ble_eq_true rfl) d_p15m28_185 ⟨by decide, by decide⟩ (fun r236 h237 H locs hp238 w => ?_)
                    refine W.widen (k := 0) (n := 0) (by decide) (by decide) ?_
                    obtain ⟨e239, rfl⟩ := hp238
                    refine pd_beq (tgt := 204) hx hb d_p15m28_188 (by decide) (fun q240 => ?_) (fun q240 => ?_)
                    · -- taken: 204
                      have hvs8 : ∀ j, j < 8 → ¬ pd_lit (pd_vw j) = tx_sub cs ((gm_split cs).2.1 0) ((gm_split cs).2.2 0) := gm_vs hvs7 (fun z => of_decide_eq_false ((gm_is_eq (hok 0 h0).2).symm.trans (e239.symm.trans q240)) (z.symm.trans gm_vb_7.symm))
                      refine lv_aload_n hx hb d_p15m28_204 rfl (lv_at hl 2 rfl) ?_
                      refine lv_iconst (v := nI 0) hx hb d_p15m28_205 (by decide) ?_
                      refine lv_ldc2 (v := 7824750) hx hb X.2.2.2.2.1 (X.2.2.2.2.2.1 _ mT_1388) d_p15m28_206 ?_
                      refine lv_iconst (v := nI 3) hx hb d_p15m28_209 (by decide) ?_
                      refine pd_cV (a := y) (As := [.int (nI 0), .long 7824750, .int (nI 3)]) (rest := []) X w hy209 rfl (c_Mod_is l G h204 (cs := cs) (nw := (gm_split cs).1) (sA := (gm_split cs).2.1) (eA := (gm_split cs).2.2) (i0 := 0) (ad := ad) (fv := fv) (iv := iv) (tl := tl) f208 hL hW h0 (by omega)) ok_Mod_is ⟨mT_1299, sT_15⟩ mT_1297 ⟨by decide, by decide⟩ rfl hl.1 rfl (Nat.le_of_ble_eq_true rfl) d_p15m28_210 ⟨by decide, by decide⟩ (fun r241 h242 H locs hp243 w => ?_)
                      refine W.widen (k := 0) (n := 0) (by decide) (by decide) ?_
                      obtain ⟨e244, rfl⟩ := hp243
                      refine pd_beq (tgt := 230) hx hb d_p15m28_213 (by decide) (fun q245 => ?_) (fun q245 => ?_)
                      · -- taken: 230
                        have hvs9 : ∀ j, j < 9 → ¬ pd_lit (pd_vw j) = tx_sub cs ((gm_split cs).2.1 0) ((gm_split cs).2.2 0) := gm_vs hvs8 (fun z => of_decide_eq_false ((gm_is_eq (hok 0 h0).2).symm.trans (e244.symm.trans q245)) (z.symm.trans gm_vb_8.symm))
                        refine lv_aload_n hx hb d_p15m28_230 rfl (lv_at hl 2 rfl) ?_
                        refine lv_iconst (v := nI 0) hx hb d_p15m28_231 (by decide) ?_
                        refine lv_ldc2 (v := 1953718627) hx hb X.2.2.2.2.1 (X.2.2.2.2.2.1 _ mT_1451) d_p15m28_232 ?_
                        refine lv_iconst (v := nI 4) hx hb d_p15m28_235 (by decide) ?_
                        refine pd_cV (a := y) (As := [.int (nI 0), .long 1953718627, .int (nI 4)]) (rest := []) X w hy209 rfl (c_Mod_is l G h204 (cs := cs) (nw := (gm_split cs).1) (sA := (gm_split cs).2.1) (eA := (gm_split cs).2.2) (i0 := 0) (ad := ad) (fv := fv) (iv := iv) (tl := tl) f208 hL hW h0 (by omega)) ok_Mod_is ⟨mT_1299, sT_15⟩ mT_1297 ⟨by decide, by decide⟩ rfl hl.1 rfl (Nat.le_of_ble_eq_true rfl) d_p15m28_236 ⟨by decide, by decide⟩ (fun r246 h247 H locs hp248 w => ?_)
                        refine W.widen (k := 0) (n := 0) (by decide) (by decide) ?_
                        obtain ⟨e249, rfl⟩ := hp248
                        refine pd_beq (tgt := 256) hx hb d_p15m28_239 (by decide) (fun q250 => ?_) (fun q250 => ?_)
                        · -- taken: 256
                          have hvs10 : ∀ j, j < 10 → ¬ pd_lit (pd_vw j) = tx_sub cs ((gm_split cs).2.1 0) ((gm_split cs).2.2 0) := gm_vs hvs9 (fun z => of_decide_eq_false ((gm_is_eq (hok 0 h0).2).symm.trans (e249.symm.trans q250)) (z.symm.trans gm_vb_9.symm))
                          refine lv_aload_n hx hb d_p15m28_256 rfl (lv_at hl 2 rfl) ?_
                          refine lv_iconst (v := nI 0) hx hb d_p15m28_257 (by decide) ?_
                          refine lv_ldc2 (v := 448345170275) hx hb X.2.2.2.2.1 (X.2.2.2.2.2.1 _ mT_1452) d_p15m28_258 ?_
                          refine lv_iconst (v := nI 5) hx hb d_p15m28_261 (by decide) ?_
                          refine pd_cV (a := y) (As := [.int (nI 0), .long 448345170275, .int (nI 5)]) (rest := []) X w hy209 rfl (c_Mod_is l G h204 (cs := cs) (nw := (gm_split cs).1) (sA := (gm_split cs).2.1) (eA := (gm_split cs).2.2) (i0 := 0) (ad := ad) (fv := fv) (iv := iv) (tl := tl) f208 hL hW h0 (by omega)) ok_Mod_is ⟨mT_1299, sT_15⟩ mT_1297 ⟨by decide, by decide⟩ rfl hl.1 rfl (Nat.le_of_ble_eq_true rfl) d_p15m28_262 ⟨by decide, by decide⟩ (fun r251 h252 H locs hp253 w => ?_)
                          refine W.widen (k := 0) (n := 0) (by decide) (by decide) ?_
                          obtain ⟨e254, rfl⟩ := hp253
                          refine pd_beq (tgt := 282) hx hb d_p15m28_265 (by decide) (fun q255 => ?_) (fun q255 => ?_)
                          · -- taken: 282
                            have hvs11 : ∀ j, j < 11 → ¬ pd_lit (pd_vw j) = tx_sub cs ((gm_split cs).2.1 0) ((gm_split cs).2.2 0) := gm_vs hvs10 (fun z => of_decide_eq_false ((gm_is_eq (hok 0 h0).2).symm.trans (e254.symm.trans q255)) (z.symm.trans gm_vb_10.symm))
                            refine lv_aload_n hx hb d_p15m28_282 rfl (lv_at hl 2 rfl) ?_
                            refine lv_iconst (v := nI 0) hx hb d_p15m28_283 (by decide) ?_
                            refine lv_ldc2 (v := 7628135) hx hb X.2.2.2.2.1 (X.2.2.2.2.2.1 _ mT_1453) d_p15m28_284 ?_
                            refine lv_iconst (v := nI 3) hx hb d_p15m28_287 (by decide) ?_
                            refine pd_cV (a := y) (As := [.int (nI 0), .long 7628135, .int (nI 3)]) (rest := []) X w hy209 rfl (c_Mod_is l G h204 (cs := cs) (nw := (gm_split cs).1) (sA := (gm_split cs).2.1) (eA := (gm_split cs).2.2) (i0 := 0) (ad := ad) (fv := fv) (iv := iv) (tl := tl) f208 hL hW h0 (by omega)) ok_Mod_is ⟨mT_1299, sT_15⟩ mT_1297 ⟨by decide, by decide⟩ rfl hl.1 rfl (Nat.le_of_ble_eq_true rfl) d_p15m28_288 ⟨by decide, by decide⟩ (fun r256 h257 H locs hp258 w => ?_)
                            refine W.widen (k := 0) (n := 0) (by decide) (by decide) ?_
                            obtain ⟨e259, rfl⟩ := hp258
                            refine pd_beq (tgt := 308) hx hb d_p15m28_291 (by decide) (fun q260 => ?_) (fun q260 => ?_)
                            · -- taken: 308
                              have hvs12 : ∀ j, j < 12 → ¬ pd_lit (pd_vw j) = tx_sub cs ((gm_split cs).2.1 0) ((gm_split cs).2.2 0) := gm_vs hvs11 (fun z => of_decide_eq_false ((gm_is_eq (hok 0 h0).2).symm.trans (e259.symm.trans q260)) (z.symm.trans gm_vb_11.symm))
                              refine lv_aload_n hx hb d_p15m28_308 rfl (lv_at hl 2 rfl) ?_
                              refine lv_iconst (v := nI 0) hx hb d_p15m28_309 (by decide) ?_
                              refine lv_ldc2 (v := 1819042147) hx hb X.2.2.2.2.1 (X.2.2.2.2.2.1 _ mT_1454) d_p15m28_310 ?_
                              refine lv_iconst (v := nI 4) hx hb d_p15m28_313 (by decide) ?_
                              refine pd_cV (a := y) (As := [.int (nI 0), .long 1819042147, .int (nI 4)]) (rest := []) X w hy209 rfl (c_Mod_is l G h204 (cs := cs) (nw := (gm_split cs).1) (sA := (gm_split cs).2.1) (eA := (gm_split cs).2.2) (i0 := 0) (ad := ad) (fv := fv) (iv := iv) (tl := tl) f208 hL hW h0 (by omega)) ok_Mod_is ⟨mT_1299, sT_15⟩ mT_1297 ⟨by decide, by decide⟩ rfl hl.1 rfl (Nat.le_of_ble_eq_true rfl) d_p15m28_314 ⟨by decide, by decide⟩ (fun r261 h262 H locs hp263 w => ?_)
                              refine W.widen (k := 0) (n := 0) (by decide) (by decide) ?_
                              obtain ⟨e264, rfl⟩ := hp263
                              refine pd_beq (tgt := 334) hx hb d_p15m28_317 (by decide) (fun q265 => ?_) (fun q265 => ?_)
                              · -- taken: 334
                                have hvs13 : ∀ j, j < 13 → ¬ pd_lit (pd_vw j) = tx_sub cs ((gm_split cs).2.1 0) ((gm_split cs).2.2 0) := gm_vs hvs12 (fun z => of_decide_eq_false ((gm_is_eq (hok 0 h0).2).symm.trans (e264.symm.trans q265)) (z.symm.trans gm_vb_12.symm))
                                refine lv_iconst (v := -1) hx hb d_p15m28_334 (by decide) ?_
                                exact pd_iret (v := (-1)) X w (gm_Q_no h0 hvs13 ((pd_kx.mono (us := pd_wk) (k207) (by decide))) f208 hR) (by decide) (by decide) d_p15m28_335
                              · -- not taken: 320
                                have hlit : pd_lit (pd_vw 12) = tx_sub cs ((gm_split cs).2.1 0) ((gm_split cs).2.2 0) := ((of_decide_eq_true ((gm_is_eq (hok 0 h0).2).symm.trans (e264.symm.trans q265))).trans gm_vb_12).symm
                                refine lv_iload_n hx hb d_p15m28_320 rfl (lv_at hl 0 rfl) ?_
                                refine pd_zeq (tgt := 332) hx hb d_p15m28_321 (by decide) (by decide) (fun _ => ?_) (fun q => absurd q (by decide))
                                refine lv_iconst (v := -1) hx hb d_p15m28_332 (by decide) ?_
                                exact pd_iret (v := (-1)) X w (gm_Q_of hok h0 (by decide) hvs12 hlit ((pd_kx.mono (us := pd_wk) (k207) (by decide))) (gm_P_no f208 hR (gm_sn_12 (by omega)))) (by decide) (by decide) d_p15m28_333
                            · -- not taken: 294
                              have hlit : pd_lit (pd_vw 11) = tx_sub cs ((gm_split cs).2.1 0) ((gm_split cs).2.2 0) := ((of_decide_eq_true ((gm_is_eq (hok 0 h0).2).symm.trans (e259.symm.trans q260))).trans gm_vb_11).symm
                              refine lv_iload_n hx hb d_p15m28_294 rfl (lv_at hl 0 rfl) ?_
                              refine pd_zeq (tgt := 306) hx hb d_p15m28_295 (by decide) (by decide) (fun _ => ?_) (fun q => absurd q (by decide))
                              refine lv_iconst (v := -1) hx hb d_p15m28_306 (by decide) ?_
                              exact pd_iret (v := (-1)) X w (gm_Q_of hok h0 (by decide) hvs11 hlit ((pd_kx.mono (us := pd_wk) (k207) (by decide))) (gm_P_no f208 hR (gm_sn_11 (by omega)))) (by decide) (by decide) d_p15m28_307
                          · -- not taken: 268
                            have hlit : pd_lit (pd_vw 10) = tx_sub cs ((gm_split cs).2.1 0) ((gm_split cs).2.2 0) := ((of_decide_eq_true ((gm_is_eq (hok 0 h0).2).symm.trans (e254.symm.trans q255))).trans gm_vb_10).symm
                            refine lv_iload_n hx hb d_p15m28_268 rfl (lv_at hl 1 rfl) ?_
                            refine pd_zeq (tgt := 280) hx hb d_p15m28_269 (by decide) (by decide) (fun q => absurd q (by decide)) (fun _ => ?_)
                            refine lv_aload_n hx hb d_p15m28_272 rfl (lv_at hl 2 rfl) ?_
                            refine lv_iconst (v := nI 3) hx hb d_p15m28_273 (by decide) ?_
                            refine pd_cV (a := y) (As := [.int (nI 3)]) (rest := []) X w hy209 rfl (c_W_10 l G h204 (cs := cs) (n := n) (R := R) (k := k) (M := M) (u := u) (U := U) (T := T) (kp := kp) (nx := nx) (sp := sp) (an := an) (gn := gn) (sn := sn) (dn := dn) (ad := ad) (fv := fv) (iv := iv) (tl := tl) f208 hL hR hI hW han (by omega)) ok_W_10 ⟨mT_1391, sT_35⟩ mT_1389 ⟨by decide, by decide⟩ rfl hl.1 rfl (Nat.le_of_ble_eq_true rfl) d_p15m28_274 ⟨by decide, by decide⟩ (fun r269 h270 H locs hp271 w => ?_)
                            refine W.widen (k := 0) (n := 0) (by decide) (by decide) ?_
                            refine lv_goto (tgt := 281) hx hb d_p15m28_277 (by decide) ?_
                            exact pd_iret (v := r269) X w (gm_Q_of hok h0 (by decide) hvs10 hlit ((pd_kx.mono (us := pd_wk) (k207) (by decide))) hp271) (by decide) (by decide) d_p15m28_281
                        · -- not taken: 242
                          have hlit : pd_lit (pd_vw 9) = tx_sub cs ((gm_split cs).2.1 0) ((gm_split cs).2.2 0) := ((of_decide_eq_true ((gm_is_eq (hok 0 h0).2).symm.trans (e249.symm.trans q250))).trans gm_vb_9).symm
                          refine lv_iload_n hx hb d_p15m28_242 rfl (lv_at hl 1 rfl) ?_
                          refine pd_zeq (tgt := 254) hx hb d_p15m28_243 (by decide) (by decide) (fun q => absurd q (by decide)) (fun _ => ?_)
                          refine lv_aload_n hx hb d_p15m28_246 rfl (lv_at hl 2 rfl) ?_
                          refine lv_iconst (v := nI 2) hx hb d_p15m28_247 (by decide) ?_
                          refine pd_cV (a := y) (As := [.int (nI 2)]) (rest := []) X w hy209 rfl (c_W_9 l G h204 (cs := cs) (n := n) (R := R) (k := k) (M := M) (u := u) (U := U) (T := T) (kp := kp) (nx := nx) (sp := sp) (an := an) (gn := gn) (sn := sn) (dn := dn) (ad := ad) (fv := fv) (iv := iv) (tl := tl) f208 hL hR hI hW han (by omega)) ok_W_9 ⟨mT_1391, sT_35⟩ mT_1389 ⟨by decide, by decide⟩ rfl hl.1 rfl (Nat.le_of_ble_eq_true rfl) d_p15m28_248 ⟨by decide, by decide⟩ (fun r273 h274 H locs hp275 w => ?_)
                          refine W.widen (k := 0) (n := 0) (by decide) (by decide) ?_
                          refine lv_goto (tgt := 255) hx hb d_p15m28_251 (by decide) ?_
                          exact pd_iret (v := r273) X w (gm_Q_of hok h0 (by decide) hvs9 hlit ((pd_kx.mono (us := pd_wk) (k207) (by decide))) hp275) (by decide) (by decide) d_p15m28_255
                      · -- not taken: 216
                        have hlit : pd_lit (pd_vw 8) = tx_sub cs ((gm_split cs).2.1 0) ((gm_split cs).2.2 0) := ((of_decide_eq_true ((gm_is_eq (hok 0 h0).2).symm.trans (e244.symm.trans q245))).trans gm_vb_8).symm
                        refine lv_iload_n hx hb d_p15m28_216 rfl (lv_at hl 1 rfl) ?_
                        refine pd_zeq (tgt := 228) hx hb d_p15m28_217 (by decide) (by decide) (fun q => absurd q (by decide)) (fun _ => ?_)
                        refine lv_aload_n hx hb d_p15m28_220 rfl (lv_at hl 2 rfl) ?_
                        refine lv_iconst (v := nI 1) hx hb d_p15m28_221 (by decide) ?_
                        refine pd_cV (a := y) (As := [.int (nI 1)]) (rest := []) X w hy209 rfl (c_W_8 l G h204 (cs := cs) (n := n) (R := R) (k := k) (M := M) (u := u) (U := U) (T := T) (kp := kp) (nx := nx) (sp := sp) (an := an) (gn := gn) (sn := sn) (dn := dn) (ad := ad) (fv := fv) (iv := iv) (tl := tl) f208 hL hR hI hW han (by omega)) ok_W_8 ⟨mT_1391, sT_35⟩ mT_1389 ⟨by decide, by decide⟩ rfl hl.1 rfl (Nat.le_of_ble_eq_true rfl) d_p15m28_222 ⟨by decide, by decide⟩ (fun r277 h278 H locs hp279 w => ?_)
                        refine W.widen (k := 0) (n := 0) (by decide) (by decide) ?_
                        refine lv_goto (tgt := 229) hx hb d_p15m28_225 (by decide) ?_
                        exact pd_iret (v := r277) X w (gm_Q_of hok h0 (by decide) hvs8 hlit ((pd_kx.mono (us := pd_wk) (k207) (by decide))) hp279) (by decide) (by decide) d_p15m28_229
                    · -- not taken: 191
                      have hlit : pd_lit (pd_vw 7) = tx_sub cs ((gm_split cs).2.1 0) ((gm_split cs).2.2 0) := ((of_decide_eq_true ((gm_is_eq (hok 0 h0).2).symm.trans (e239.symm.trans q240))).trans gm_vb_7).symm
                      refine lv_iload_n hx hb d_p15m28_191 rfl (lv_at hl 0 rfl) ?_
                      refine pd_zeq (tgt := 202) hx hb d_p15m28_192 (by decide) (by decide) (fun _ => ?_) (fun q => absurd q (by decide))
                      refine lv_iconst (v := -1) hx hb d_p15m28_202 (by decide) ?_
                      exact pd_iret (v := (-1)) X w (gm_Q_of hok h0 (by decide) hvs7 hlit ((pd_kx.mono (us := pd_wk) (k207) (by decide))) (gm_P_no f208 hR (gm_sn_7 (by omega)))) (by decide) (by decide) d_p15m28_203
                  · -- not taken: 160
                    have hlit : pd_lit (pd_vw 6) = tx_sub cs ((gm_split cs).2.1 0) ((gm_split cs).2.2 0) := ((of_decide_eq_true ((gm_is_eq (hok 0 h0).2).symm.trans (e234.symm.trans q235))).trans gm_vb_6).symm
                    refine lv_iload_n hx hb d_p15m28_160 rfl (lv_at hl 0 rfl) ?_
                    refine pd_zeq (tgt := 177) hx hb d_p15m28_161 (by decide) (by decide) (fun _ => ?_) (fun q => absurd q (by decide))
                    refine lv_iconst (v := -1) hx hb d_p15m28_177 (by decide) ?_
                    exact pd_iret (v := (-1)) X w (gm_Q_of hok h0 (by decide) hvs6 hlit ((pd_kx.mono (us := pd_wk) (k207) (by decide))) (gm_P_no f208 hR (gm_sn_6 (by omega)))) (by decide) (by decide) d_p15m28_178
                · -- not taken: 133
                  have hlit : pd_lit (pd_vw 5) = tx_sub cs ((gm_split cs).2.1 0) ((gm_split cs).2.2 0) := ((of_decide_eq_true ((gm_is_eq (hok 0 h0).2).symm.trans (e229.symm.trans q230))).trans gm_vb_5).symm
                  refine lv_iload_n hx hb d_p15m28_133 rfl (lv_at hl 1 rfl) ?_
                  refine pd_zeq (tgt := 146) hx hb d_p15m28_134 (by decide) (by decide) (fun q => absurd q (by decide)) (fun _ => ?_)
                  refine lv_aload_n hx hb d_p15m28_137 rfl (lv_at hl 2 rfl) ?_
                  refine lv_iconst (v := nI 1) hx hb d_p15m28_138 (by decide) ?_
                  refine lv_iconst (v := nI 0) hx hb d_p15m28_139 (by decide) ?_
                  refine pd_cV (a := y) (As := [.int (nI 1), .int (nI 0)]) (rest := []) X w hy209 rfl (c_W_5 l G h204 (cs := cs) (n := n) (R := R) (k := k) (M := M) (u := u) (U := U) (T := T) (kp := kp) (nx := nx) (sp := sp) (an := an) (gn := gn) (sn := sn) (dn := dn) (ad := ad) (fv := fv) (iv := iv) (tl := tl) f208 hL hR hI hW han (by omega)) ok_W_5 ⟨mT_1371, sT_31⟩ mT_1369 ⟨by decide, by decide⟩ rfl hl.1 rfl (Nat.le_of_ble_eq_true rfl) d_p15m28_140 ⟨by decide, by decide⟩ (fun r283 h284 H locs hp285 w => ?_)
                  refine W.widen (k := 0) (n := 0) (by decide) (by decide) ?_
                  refine lv_goto (tgt := 147) hx hb d_p15m28_143 (by decide) ?_
                  exact pd_iret (v := r283) X w (gm_Q_of hok h0 (by decide) hvs5 hlit ((pd_kx.mono (us := pd_wk) (k207) (by decide))) hp285) (by decide) (by decide) d_p15m28_147
              · -- not taken: 106
                have hlit : pd_lit (pd_vw 4) = tx_sub cs ((gm_split cs).2.1 0) ((gm_split cs).2.2 0) := ((of_decide_eq_true ((gm_is_eq (hok 0 h0).2).symm.trans (e224.symm.trans q225))).trans gm_vb_4).symm
                refine lv_iload_n hx hb d_p15m28_106 rfl (lv_at hl 1 rfl) ?_
                refine pd_zeq (tgt := 119) hx hb d_p15m28_107 (by decide) (by decide) (fun q => absurd q (by decide)) (fun _ => ?_)
                refine lv_aload_n hx hb d_p15m28_110 rfl (lv_at hl 2 rfl) ?_
                refine lv_iconst (v := nI 0) hx hb d_p15m28_111 (by decide) ?_
                refine lv_iconst (v := nI 0) hx hb d_p15m28_112 (by decide) ?_
                refine pd_cV (a := y) (As := [.int (nI 0), .int (nI 0)]) (rest := []) X w hy209 rfl (c_W_4 l G h204 (cs := cs) (n := n) (R := R) (k := k) (M := M) (u := u) (U := U) (T := T) (kp := kp) (nx := nx) (sp := sp) (an := an) (gn := gn) (sn := sn) (dn := dn) (ad := ad) (fv := fv) (iv := iv) (tl := tl) f208 hL hR hI hW han (by omega)) ok_W_4 ⟨mT_1371, sT_31⟩ mT_1369 ⟨by decide, by decide⟩ rfl hl.1 rfl (Nat.le_of_ble_eq_true rfl) d_p15m28_113 ⟨by decide, by decide⟩ (fun r287 h288 H locs hp289 w => ?_)
                refine W.widen (k := 0) (n := 0) (by decide) (by decide) ?_
                refine lv_goto (tgt := 120) hx hb d_p15m28_116 (by decide) ?_
                exact pd_iret (v := r287) X w (gm_Q_of hok h0 (by decide) hvs4 hlit ((pd_kx.mono (us := pd_wk) (k207) (by decide))) hp289) (by decide) (by decide) d_p15m28_120
            · -- not taken: 87
              have hlit : pd_lit (pd_vw 3) = tx_sub cs ((gm_split cs).2.1 0) ((gm_split cs).2.2 0) := ((of_decide_eq_true ((gm_is_eq (hok 0 h0).2).symm.trans (e219.symm.trans q220))).trans gm_vb_3).symm
              refine lv_aload_n hx hb d_p15m28_87 rfl (lv_at hl 2 rfl) ?_
              refine lv_iload_n hx hb d_p15m28_88 rfl (lv_at hl 3 rfl) ?_
              refine lv_iconst (v := nI 1) hx hb d_p15m28_89 (by decide) ?_
              refine pd_cV (a := y) (As := [.int (nI ((gm_split cs).1)), .int (nI 1)]) (rest := []) X w hy209 rfl (c_W_3 l G h204 (cs := cs) (n := n) (R := R) (k := k) (M := M) (u := u) (U := U) (T := T) (kp := kp) (nx := nx) (sp := sp) (an := an) (gn := gn) (sn := sn) (dn := dn) (ad := ad) (fv := fv) (iv := iv) (tl := tl) f208 hL hR hI hW han) ok_W_3 ⟨mT_1336, sT_23⟩ mT_1334 ⟨by decide, by decide⟩ rfl hl.1 rfl (Nat.le_of_ble_eq_true rfl) d_p15m28_90 ⟨by decide, by decide⟩ (fun r290 h291 H locs hp292 w => ?_)
              refine W.widen (k := 0) (n := 0) (by decide) (by decide) ?_
              exact pd_iret (v := r290) X w (gm_Q_of hok h0 (by decide) hvs3 hlit ((pd_kx.mono (us := pd_wk) (k207) (by decide))) hp292) (by decide) (by decide) d_p15m28_93
          · -- not taken: 67
            have hlit : pd_lit (pd_vw 2) = tx_sub cs ((gm_split cs).2.1 0) ((gm_split cs).2.2 0) := ((of_decide_eq_true ((gm_is_eq (hok 0 h0).2).symm.trans (e214.symm.trans q215))).trans gm_vb_2).symm
            refine lv_aload_n hx hb d_p15m28_67 rfl (lv_at hl 2 rfl) ?_
            refine lv_iload_n hx hb d_p15m28_68 rfl (lv_at hl 3 rfl) ?_
            refine lv_iconst (v := nI 0) hx hb d_p15m28_69 (by decide) ?_
            refine pd_cV (a := y) (As := [.int (nI ((gm_split cs).1)), .int (nI 0)]) (rest := []) X w hy209 rfl (c_W_2 l G h204 (cs := cs) (n := n) (R := R) (k := k) (M := M) (u := u) (U := U) (T := T) (kp := kp) (nx := nx) (sp := sp) (an := an) (gn := gn) (sn := sn) (dn := dn) (ad := ad) (fv := fv) (iv := iv) (tl := tl) f208 hL hR hI hW han) ok_W_2 ⟨mT_1336, sT_23⟩ mT_1334 ⟨by decide, by decide⟩ rfl hl.1 rfl (Nat.le_of_ble_eq_true rfl) d_p15m28_70 ⟨by decide, by decide⟩ (fun r293 h294 H locs hp295 w => ?_)
            refine W.widen (k := 0) (n := 0) (by decide) (by decide) ?_
            exact pd_iret (v := r293) X w (gm_Q_of hok h0 (by decide) hvs2 hlit ((pd_kx.mono (us := pd_wk) (k207) (by decide))) hp295) (by decide) (by decide) d_p15m28_73
        · -- not taken: 48
          have hlit : pd_lit (pd_vw 1) = tx_sub cs ((gm_split cs).2.1 0) ((gm_split cs).2.2 0) := (of_decide_eq_true ((gm_vi hok h0).symm.trans (e206.symm.trans q210))).symm
          refine lv_aload_n hx hb d_p15m28_48 rfl (lv_at hl 2 rfl) ?_
          refine lv_iload_n hx hb d_p15m28_49 rfl (lv_at hl 3 rfl) ?_
          refine lv_iconst (v := nI 1) hx hb d_p15m28_50 (by decide) ?_
          refine pd_cV (a := y) (As := [.int (nI ((gm_split cs).1)), .int (nI 1)]) (rest := []) X w hy209 rfl (c_W_1 l G h204 (cs := cs) (n := n) (R := R) (k := k) (M := M) (u := u) (U := U) (T := T) (kp := kp) (nx := nx) (sp := sp) (an := an) (gn := gn) (sn := sn) (dn := dn) (ad := ad) (fv := fv) (iv := iv) (tl := tl) f208 hL hR hI hW han) ok_W_1 ⟨mT_1303, sT_16⟩ mT_1301 ⟨by decide, by decide⟩ rfl hl.1 rfl (Nat.le_of_ble_eq_true rfl) d_p15m28_51 ⟨by decide, by decide⟩ (fun r296 h297 H locs hp298 w => ?_)
          refine W.widen (k := 0) (n := 0) (by decide) (by decide) ?_
          exact pd_iret (v := r296) X w (gm_Q_of hok h0 (by decide) hvs1 hlit ((pd_kx.mono (us := pd_wk) (k207) (by decide))) hp298) (by decide) (by decide) d_p15m28_54
      · -- not taken: 34
        have hlit : pd_lit (pd_vw 0) = tx_sub cs ((gm_split cs).2.1 0) ((gm_split cs).2.2 0) := ((of_decide_eq_true ((gm_is_eq (hok 0 h0).2).symm.trans (e201.symm.trans q202))).trans gm_vb_0).symm
        refine lv_aload_n hx hb d_p15m28_34 rfl (lv_at hl 2 rfl) ?_
        refine lv_iload_n hx hb d_p15m28_35 rfl (lv_at hl 3 rfl) ?_
        refine lv_iconst (v := nI 0) hx hb d_p15m28_36 (by decide) ?_
        refine pd_cV (a := y) (As := [.int (nI ((gm_split cs).1)), .int (nI 0)]) (rest := []) X w hy0 rfl (c_W_0 l G h (cs := cs) (n := n) (R := R) (k := k) (M := M) (u := u) (U := U) (T := T) (kp := kp) (nx := nx) (sp := sp) (an := an) (gn := gn) (sn := sn) (dn := dn) (ad := ad) (fv := fv) (iv := iv) (tl := tl) hMO hL hR hI hW han) ok_W_0 ⟨mT_1303, sT_16⟩ mT_1301 ⟨by decide, by decide⟩ rfl hl.1 rfl (Nat.le_of_ble_eq_true rfl) d_p15m28_37 ⟨by decide, by decide⟩ (fun r299 h300 H locs hp301 w => ?_)
        refine W.widen (k := 0) (n := 0) (by decide) (by decide) ?_
        exact pd_iret (v := r299) X w (gm_Q_of hok h0 (by decide) hvs0 hlit (pd_kx.rf) hp301) (by decide) (by decide) d_p15m28_40
    · -- not taken: 16
      exfalso
      omega
