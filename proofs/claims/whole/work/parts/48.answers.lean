theorem gm_fl_le (r : pd_cr) : (gm_fl r).length ≤ 2 := by
  unfold gm_fl
  rw [List.length_append]
  have h1 : ∀ o : Option Nat, o.toList.length ≤ 1 := fun o => by cases o <;> simp
  have := h1 r.2.2.2.1
  have := h1 r.2.2.2.2.1
  omega
theorem d_p15m44_0 : decode prog_15_method_44_code 0 = .ok (.iload_n 1, 1) := by decide +kernel
theorem d_p15m44_1 : decode prog_15_method_44_code 1 = .ok (.iconst 0, 1) := by decide +kernel
theorem d_p15m44_2 : decode prog_15_method_44_code 2 = .ok (.aload_n 0, 1) := by decide +kernel
theorem d_p15m44_3 : decode prog_15_method_44_code 3 = .ok (.getfield 38, 3) := by decide +kernel
theorem d_p15m44_6 : decode prog_15_method_44_code 6 = .ok (.iconst 1, 1) := by decide +kernel
theorem d_p15m44_7 : decode prog_15_method_44_code 7 = .ok (.isub, 1) := by decide +kernel
theorem d_p15m44_8 : decode prog_15_method_44_code 8 = .ok (.invokestatic 109, 3) := by decide +kernel
theorem d_p15m44_11 : decode prog_15_method_44_code 11 = .ok (.ifCond .ne 6, 3) := by decide +kernel
theorem d_p15m44_14 : decode prog_15_method_44_code 14 = .ok (.bipush (-2), 2) := by decide +kernel
theorem d_p15m44_16 : decode prog_15_method_44_code 16 = .ok (.ireturn, 1) := by decide +kernel
theorem d_p15m44_17 : decode prog_15_method_44_code 17 = .ok (.iconst 0, 1) := by decide +kernel
theorem d_p15m44_18 : decode prog_15_method_44_code 18 = .ok (.istore_n 3, 1) := by decide +kernel
theorem d_p15m44_19 : decode prog_15_method_44_code 19 = .ok (.iconst 0, 1) := by decide +kernel
theorem d_p15m44_20 : decode prog_15_method_44_code 20 = .ok (.istore 4, 2) := by decide +kernel
theorem d_p15m44_22 : decode prog_15_method_44_code 22 = .ok (.iload 4, 2) := by decide +kernel
theorem d_p15m44_24 : decode prog_15_method_44_code 24 = .ok (.aload_n 0, 1) := by decide +kernel
theorem d_p15m44_25 : decode prog_15_method_44_code 25 = .ok (.getfield 148, 3) := by decide +kernel
theorem d_p15m44_28 : decode prog_15_method_44_code 28 = .ok (.if_icmp .ge 23, 3) := by decide +kernel
theorem d_p15m44_31 : decode prog_15_method_44_code 31 = .ok (.aload_n 0, 1) := by decide +kernel
theorem d_p15m44_32 : decode prog_15_method_44_code 32 = .ok (.getfield 42, 3) := by decide +kernel
theorem d_p15m44_35 : decode prog_15_method_44_code 35 = .ok (.iload 4, 2) := by decide +kernel
theorem d_p15m44_37 : decode prog_15_method_44_code 37 = .ok (.iaload, 1) := by decide +kernel
theorem d_p15m44_38 : decode prog_15_method_44_code 38 = .ok (.iload_n 1, 1) := by decide +kernel
theorem d_p15m44_39 : decode prog_15_method_44_code 39 = .ok (.if_icmp .ne 6, 3) := by decide +kernel
theorem d_p15m44_42 : decode prog_15_method_44_code 42 = .ok (.iinc 3 1, 3) := by decide +kernel
theorem d_p15m44_45 : decode prog_15_method_44_code 45 = .ok (.iinc 4 1, 3) := by decide +kernel
theorem d_p15m44_48 : decode prog_15_method_44_code 48 = .ok (.goto (-26), 3) := by decide +kernel
theorem d_p15m44_51 : decode prog_15_method_44_code 51 = .ok (.iload_n 2, 1) := by decide +kernel
theorem d_p15m44_52 : decode prog_15_method_44_code 52 = .ok (.tableswitch 112 0 6 #[44, 51, 66, 73, 73, 103, 105], 44) := by decide +kernel
theorem d_p15m44_96 : decode prog_15_method_44_code 96 = .ok (.aload_n 0, 1) := by decide +kernel
theorem d_p15m44_97 : decode prog_15_method_44_code 97 = .ok (.getfield 25, 3) := by decide +kernel
theorem d_p15m44_100 : decode prog_15_method_44_code 100 = .ok (.iload_n 1, 1) := by decide +kernel
theorem d_p15m44_101 : decode prog_15_method_44_code 101 = .ok (.iaload, 1) := by decide +kernel
theorem d_p15m44_102 : decode prog_15_method_44_code 102 = .ok (.ireturn, 1) := by decide +kernel
theorem d_p15m44_103 : decode prog_15_method_44_code 103 = .ok (.aload_n 0, 1) := by decide +kernel
theorem d_p15m44_104 : decode prog_15_method_44_code 104 = .ok (.getfield 34, 3) := by decide +kernel
theorem d_p15m44_107 : decode prog_15_method_44_code 107 = .ok (.iload_n 1, 1) := by decide +kernel
theorem d_p15m44_108 : decode prog_15_method_44_code 108 = .ok (.baload, 1) := by decide +kernel
theorem d_p15m44_109 : decode prog_15_method_44_code 109 = .ok (.ifCond .eq 7, 3) := by decide +kernel
theorem d_p15m44_112 : decode prog_15_method_44_code 112 = .ok (.iconst 1, 1) := by decide +kernel
theorem d_p15m44_113 : decode prog_15_method_44_code 113 = .ok (.goto 4, 3) := by decide +kernel
theorem d_p15m44_116 : decode prog_15_method_44_code 116 = .ok (.iconst 0, 1) := by decide +kernel
theorem d_p15m44_117 : decode prog_15_method_44_code 117 = .ok (.ireturn, 1) := by decide +kernel
theorem d_p15m44_118 : decode prog_15_method_44_code 118 = .ok (.aload_n 0, 1) := by decide +kernel
theorem d_p15m44_119 : decode prog_15_method_44_code 119 = .ok (.getfield 31, 3) := by decide +kernel
theorem d_p15m44_122 : decode prog_15_method_44_code 122 = .ok (.iload_n 1, 1) := by decide +kernel
theorem d_p15m44_123 : decode prog_15_method_44_code 123 = .ok (.iaload, 1) := by decide +kernel
theorem d_p15m44_124 : decode prog_15_method_44_code 124 = .ok (.ireturn, 1) := by decide +kernel
theorem d_p15m44_125 : decode prog_15_method_44_code 125 = .ok (.iload_n 2, 1) := by decide +kernel
theorem d_p15m44_126 : decode prog_15_method_44_code 126 = .ok (.iconst 3, 1) := by decide +kernel
theorem d_p15m44_127 : decode prog_15_method_44_code 127 = .ok (.isub, 1) := by decide +kernel
theorem d_p15m44_128 : decode prog_15_method_44_code 128 = .ok (.aload_n 0, 1) := by decide +kernel
theorem d_p15m44_129 : decode prog_15_method_44_code 129 = .ok (.getfield 31, 3) := by decide +kernel
theorem d_p15m44_132 : decode prog_15_method_44_code 132 = .ok (.iload_n 1, 1) := by decide +kernel
theorem d_p15m44_133 : decode prog_15_method_44_code 133 = .ok (.iaload, 1) := by decide +kernel
theorem d_p15m44_134 : decode prog_15_method_44_code 134 = .ok (.if_icmp .ge 18, 3) := by decide +kernel
theorem d_p15m44_137 : decode prog_15_method_44_code 137 = .ok (.aload_n 0, 1) := by decide +kernel
theorem d_p15m44_138 : decode prog_15_method_44_code 138 = .ok (.getfield 28, 3) := by decide +kernel
theorem d_p15m44_141 : decode prog_15_method_44_code 141 = .ok (.iconst 2, 1) := by decide +kernel
theorem d_p15m44_142 : decode prog_15_method_44_code 142 = .ok (.iload_n 1, 1) := by decide +kernel
theorem d_p15m44_143 : decode prog_15_method_44_code 143 = .ok (.imul, 1) := by decide +kernel
theorem d_p15m44_144 : decode prog_15_method_44_code 144 = .ok (.iload_n 2, 1) := by decide +kernel
theorem d_p15m44_145 : decode prog_15_method_44_code 145 = .ok (.iadd, 1) := by decide +kernel
theorem d_p15m44_146 : decode prog_15_method_44_code 146 = .ok (.iconst 3, 1) := by decide +kernel
theorem d_p15m44_147 : decode prog_15_method_44_code 147 = .ok (.isub, 1) := by decide +kernel
theorem d_p15m44_148 : decode prog_15_method_44_code 148 = .ok (.iaload, 1) := by decide +kernel
theorem d_p15m44_149 : decode prog_15_method_44_code 149 = .ok (.goto 5, 3) := by decide +kernel
theorem d_p15m44_152 : decode prog_15_method_44_code 152 = .ok (.bipush (-2), 2) := by decide +kernel
theorem d_p15m44_154 : decode prog_15_method_44_code 154 = .ok (.ireturn, 1) := by decide +kernel
theorem d_p15m44_155 : decode prog_15_method_44_code 155 = .ok (.iload_n 3, 1) := by decide +kernel
theorem d_p15m44_156 : decode prog_15_method_44_code 156 = .ok (.ireturn, 1) := by decide +kernel
theorem d_p15m44_157 : decode prog_15_method_44_code 157 = .ok (.aload_n 0, 1) := by decide +kernel
theorem d_p15m44_158 : decode prog_15_method_44_code 158 = .ok (.getfield 22, 3) := by decide +kernel
theorem d_p15m44_161 : decode prog_15_method_44_code 161 = .ok (.iload_n 1, 1) := by decide +kernel
theorem d_p15m44_162 : decode prog_15_method_44_code 162 = .ok (.iaload, 1) := by decide +kernel
theorem d_p15m44_163 : decode prog_15_method_44_code 163 = .ok (.ireturn, 1) := by decide +kernel
theorem d_p15m44_164 : decode prog_15_method_44_code 164 = .ok (.bipush (-2), 2) := by decide +kernel
theorem d_p15m44_166 : decode prog_15_method_44_code 166 = .ok (.ireturn, 1) := by decide +kernel
abbrev y_Mod_cls : MethodName := ⟨"PolicyDeskModel", "cls", "(II)I"⟩
theorem ok_Mod_cls : pd_ok y_Mod_cls prog_15_method_44_code 5 (some .int) 2 := ⟨mT_1458, mT_21, by decide, by decide +kernel⟩
abbrev rm_Mod_cls : Room := { frames := 1, cells := 0, slots := 0, locals := 22 }
set_option maxHeartbeats 4000000 in
set_option maxRecDepth 100000 in
theorem lp_Mod_cls_22 (l : Launch) (G : pd_G) (h : pd_H) {y : Nat} {ad : Nat → Nat} {fv : Nat → Nat → Int32} {iv : Nat → Int32} {tl : Int64} {n : Nat} {R : Nat → pd_cr} {k : Nat} {M : Nat → pd_mr} {c0 wh : Int32} (hMO : pd_MO G h y ad fv iv tl) (hC : gm_C fv iv n R) (hM : gm_M fv iv n k M) {p : Program} {e : Env} {s : State} {m : MethodId} {below : List Frame} {meth : Method} {c : Code} (X : pd_B p s m [.ref y, .int c0, .int wh].toArray meth c G y_Mod_cls.cls prog_15_method_44_code 5 (some .int)) (hmn : meth.name = y_Mod_cls.name) :
    ∀ (kk9 : Nat) (i : Nat) (t : Nat) (i9 : Nat), (i9 < n) → (pd_ix n c0 = some i9) → (i ≤ k) → (gr_cnt M i9 i = t) → k - i < kk9 → ∀ (H : Heap) (locs : List Loc), pd_w G s H locs h → ∀ ls : Array Slot, lv_has ls 5 [(4, .int (nI i)), (3, .int (nI t)), (0, .ref y), (1, .int (nI i9)), (2, .int wh)] → W p l e rm_Mod_cls s m [.ref y, .int c0, .int wh].toArray below meth c H locs 0 0 (MQ below (pd_Q G Value.int (fun r h1 => r = gr_cls n R k M c0 wh ∧ h = h1)) [.ref y, .int c0, .int wh].toArray s rm_Mod_cls.cells rm_Mod_cls.slots (fun q => G.2.1 ≤ q)) (F0 m 22 ls []) := by
  have hx := X.1
  have hb := X.2.1
  have hz_y := hMO.2.1
  have hy0 : h y = some (20, .inr (10, [.ref (ad 0), .ref (ad 1), .ref (ad 2), .int (iv 3), .int (iv 4), .int (iv 5), .ref (ad 6), .ref (ad 7), .ref (ad 8), .ref (ad 9), .ref (ad 10), .ref (ad 11), .int (iv 12), .ref (ad 13), .ref (ad 14), .ref (ad 15), .ref (ad 16), .ref (ad 17), .ref (ad 18), .ref (ad 19), .int (iv 20), .ref (ad 21), .ref (ad 22), .ref (ad 23), .ref (ad 24), .ref (ad 25), .ref (ad 26), .ref (ad 27), .ref (ad 28), .int (iv 29), .ref (ad 30), .ref (ad 31), .int (iv 32), .int (iv 33), .int (iv 34), .int (iv 35), .long tl, .int (iv 37), .int (iv 38), .int (iv 39), .int (iv 40), .ref (ad 41), .ref (ad 42), .int (iv 43)])) := hMO.1
  have ha7 : h (ad 7) = some (37, .inl (.int, 14, .inl (fv 7))) := (hMO.2.2 7 (by decide)).1
  have ha8 : h (ad 8) = some (38, .inl (.int, 14, .inl (fv 8))) := (hMO.2.2 8 (by decide)).1
  have ha9 : h (ad 9) = some (39, .inl (.int, 28, .inl (fv 9))) := (hMO.2.2 9 (by decide)).1
  have ha10 : h (ad 10) = some (40, .inl (.int, 14, .inl (fv 10))) := (hMO.2.2 10 (by decide)).1
  have ha11 : h (ad 11) = some (41, .inl (.boolean, 14, .inl (fv 11))) := (hMO.2.2 11 (by decide)).1
  have ha13 : h (ad 13) = some (43, .inl (.int, 24, .inl (fv 13))) := (hMO.2.2 13 (by decide)).1
  obtain ⟨hiv12, hn2, hn14, hCc⟩ := id hC
  obtain ⟨hiv20, hk24, hMm⟩ := id hM
  intro kk9
  induction kk9 with
  | zero => intros; omega
  | succ kk9 ih =>
    intro i t i9 hi9 hix hi hv hmu H locs w ls hl
    obtain ⟨rc1, rc2, rc3, rc4, rc5, rc6, rc7, rc8, rc9, rc10⟩ := hCc i9 hi9
    have htl : t ≤ i := by rw [← hv]; exact gr_cnt_le M i9 i
    have hfl2 := gm_fl_le (R i9)
    refine lv_iload hx hb d_p15m44_22 (lv_at hl 0 rfl) ?_
    refine lv_aload_n hx hb d_p15m44_24 rfl (lv_at hl 2 rfl) ?_
    refine pd_get X w hy0 rfl 20 (by decide) mT_1159 rfl rfl d_p15m44_25 ?_
    refine pd_top (v' := .int (nI k)) (congrArg Value.int hiv20) ?_
    refine pd_jge (tgt := 51) hx hb d_p15m44_28 (by decide) (by omega) (by omega) (fun q1 => ?_) (fun q1 => ?_)
    · -- taken: 51
      refine lv_iload_n hx hb d_p15m44_51 rfl (lv_at hl 4 rfl) ?_
      by_cases z3 : wh = nI 0
      · -- case 0: 96
        refine lv_tableIn (tgt := 96) hx hb d_p15m44_52 (by rw [z3]; decide) (by rw [z3]; decide) (by rw [z3]; rfl) (by decide) ?_
        refine lv_aload_n hx hb d_p15m44_96 rfl (lv_at hl 2 rfl) ?_
        refine pd_get X w hy0 rfl 8 (by decide) mT_1147 rfl rfl d_p15m44_97 ?_
        refine lv_iload_n hx hb d_p15m44_100 rfl (lv_at hl 3 rfl) ?_
        refine pd_iald X w ha8 (by omega) (by omega) d_p15m44_101 ?_
        exact pd_iret (v := ((fv 8) i9)) X w ⟨by simp only [gr_cls, hix]; rw [if_pos z3]; exact rc5.trans (gr_no_m _).symm, rfl⟩ (by decide) (by decide) d_p15m44_102
      by_cases z4 : wh = nI 1
      · -- case 1: 103
        refine lv_tableIn (tgt := 103) hx hb d_p15m44_52 (by rw [z4]; decide) (by rw [z4]; decide) (by rw [z4]; rfl) (by decide) ?_
        refine lv_aload_n hx hb d_p15m44_103 rfl (lv_at hl 2 rfl) ?_
        refine pd_get X w hy0 rfl 11 (by decide) mT_1150 rfl rfl d_p15m44_104 ?_
        refine lv_iload_n hx hb d_p15m44_107 rfl (lv_at hl 3 rfl) ?_
        refine pd_zald X w ha11 (by omega) (by omega) d_p15m44_108 ?_
        refine pd_top (v' := .int (pd_b ((R i9).2.1))) (congrArg Value.int rc6) ?_
        refine pd_beq (tgt := 116) hx hb d_p15m44_109 (by decide) (fun q5 => ?_) (fun q5 => ?_)
        · -- taken: 116
          refine lv_iconst (v := nI 0) hx hb d_p15m44_116 (by decide) ?_
          exact pd_iret (v := (nI 0)) X w ⟨by simp only [gr_cls, hix]; rw [if_neg z3, if_pos z4]; rw [q5]; rfl, rfl⟩ (by decide) (by decide) d_p15m44_117
        · -- not taken: 112
          refine lv_iconst (v := nI 1) hx hb d_p15m44_112 (by decide) ?_
          refine lv_goto (tgt := 117) hx hb d_p15m44_113 (by decide) ?_
          exact pd_iret (v := (nI 1)) X w ⟨by simp only [gr_cls, hix]; rw [if_neg z3, if_pos z4]; rw [q5]; rfl, rfl⟩ (by decide) (by decide) d_p15m44_117
      by_cases z6 : wh = nI 2
      · -- case 2: 118
        refine lv_tableIn (tgt := 118) hx hb d_p15m44_52 (by rw [z6]; decide) (by rw [z6]; decide) (by rw [z6]; rfl) (by decide) ?_
        refine lv_aload_n hx hb d_p15m44_118 rfl (lv_at hl 2 rfl) ?_
        refine pd_get X w hy0 rfl 10 (by decide) mT_1149 rfl rfl d_p15m44_119 ?_
        refine lv_iload_n hx hb d_p15m44_122 rfl (lv_at hl 3 rfl) ?_
        refine pd_iald X w ha10 (by omega) (by omega) d_p15m44_123 ?_
        refine pd_top (v' := .int (nI ((gm_fl (R i9)).length))) (congrArg Value.int rc7) ?_
        exact pd_iret (v := (nI ((gm_fl (R i9)).length))) X w ⟨by simp only [gr_cls, hix]; rw [if_neg z3, if_neg z4, if_pos z6]; rw [gm_fl_len], rfl⟩ (by decide) (by decide) d_p15m44_124
      by_cases z7 : wh = nI 3
      · -- case 3: 125
        refine lv_tableIn (tgt := 125) hx hb d_p15m44_52 (by rw [z7]; decide) (by rw [z7]; decide) (by rw [z7]; rfl) (by decide) ?_
        rw [z7] at hl
        have hl : lv_has ls 5 [(4, .int (nI i)), (3, .int (nI t)), (0, .ref y), (1, .int (nI i9)), (2, .int (nI 3))] := hl
        refine lv_iload_n hx hb d_p15m44_125 rfl (lv_at hl 4 rfl) ?_
        refine lv_iconst (v := nI 3) hx hb d_p15m44_126 (by decide) ?_
        refine pd_isub hx hb d_p15m44_127 (by omega) ?_
        refine lv_aload_n hx hb d_p15m44_128 rfl (lv_at hl 2 rfl) ?_
        refine pd_get X w hy0 rfl 10 (by decide) mT_1149 rfl rfl d_p15m44_129 ?_
        refine lv_iload_n hx hb d_p15m44_132 rfl (lv_at hl 3 rfl) ?_
        refine pd_iald X w ha10 (by omega) (by omega) d_p15m44_133 ?_
        refine pd_top (v' := .int (nI ((gm_fl (R i9)).length))) (congrArg Value.int rc7) ?_
        refine pd_jge (tgt := 152) hx hb d_p15m44_134 (by decide) (by omega) (by omega) (fun q8 => ?_) (fun q8 => ?_)
        · -- taken: 152
          refine lv_bipush (v := -2) hx hb d_p15m44_152 (by decide) ?_
          exact pd_iret (v := (-2)) X w ⟨by simp only [gr_cls, hix]; rw [if_neg z3, if_neg z4, if_neg z6, if_pos z7]; rw [gm_fl_0 rc9, if_neg (by omega)], rfl⟩ (by decide) (by decide) d_p15m44_154
        · -- not taken: 137
          refine lv_aload_n hx hb d_p15m44_137 rfl (lv_at hl 2 rfl) ?_
          refine pd_get X w hy0 rfl 9 (by decide) mT_1148 rfl rfl d_p15m44_138 ?_
          refine lv_iconst (v := nI 2) hx hb d_p15m44_141 (by decide) ?_
          refine lv_iload_n hx hb d_p15m44_142 rfl (lv_at hl 3 rfl) ?_
          refine pd_imul hx hb d_p15m44_143 ?_
          refine lv_iload_n hx hb d_p15m44_144 rfl (lv_at hl 4 rfl) ?_
          refine pd_iadd hx hb d_p15m44_145 ?_
          refine lv_iconst (v := nI 3) hx hb d_p15m44_146 (by decide) ?_
          refine pd_isub hx hb d_p15m44_147 (by omega) ?_
          refine pd_iald X w ha9 (by omega) (by omega) d_p15m44_148 ?_
          refine pd_top (v' := .int (nI ((gm_fl (R i9)).getD 0 0))) (by have z := rc8 0 (by omega); rw [show ((2 * i9) + 3) - 3 = 2 * i9 + 0 by omega]; exact congrArg Value.int z) ?_
          refine lv_goto (tgt := 154) hx hb d_p15m44_149 (by decide) ?_
          exact pd_iret (v := (nI ((gm_fl (R i9)).getD 0 0))) X w ⟨by simp only [gr_cls, hix]; rw [if_neg z3, if_neg z4, if_neg z6, if_pos z7]; rw [gm_fl_0 rc9, if_pos (by omega)], rfl⟩ (by decide) (by decide) d_p15m44_154
      by_cases z9 : wh = nI 4
      · -- case 4: 125
        refine lv_tableIn (tgt := 125) hx hb d_p15m44_52 (by rw [z9]; decide) (by rw [z9]; decide) (by rw [z9]; rfl) (by decide) ?_
        rw [z9] at hl
        have hl : lv_has ls 5 [(4, .int (nI i)), (3, .int (nI t)), (0, .ref y), (1, .int (nI i9)), (2, .int (nI 4))] := hl
        refine lv_iload_n hx hb d_p15m44_125 rfl (lv_at hl 4 rfl) ?_
        refine lv_iconst (v := nI 3) hx hb d_p15m44_126 (by decide) ?_
        refine pd_isub hx hb d_p15m44_127 (by omega) ?_
        refine lv_aload_n hx hb d_p15m44_128 rfl (lv_at hl 2 rfl) ?_
        refine pd_get X w hy0 rfl 10 (by decide) mT_1149 rfl rfl d_p15m44_129 ?_
        refine lv_iload_n hx hb d_p15m44_132 rfl (lv_at hl 3 rfl) ?_
        refine pd_iald X w ha10 (by omega) (by omega) d_p15m44_133 ?_
        refine pd_top (v' := .int (nI ((gm_fl (R i9)).length))) (congrArg Value.int rc7) ?_
        refine pd_jge (tgt := 152) hx hb d_p15m44_134 (by decide) (by omega) (by omega) (fun q10 => ?_) (fun q10 => ?_)
        · -- taken: 152
          refine lv_bipush (v := -2) hx hb d_p15m44_152 (by decide) ?_
          exact pd_iret (v := (-2)) X w ⟨by simp only [gr_cls, hix]; rw [if_neg z3, if_neg z4, if_neg z6, if_neg z7, if_pos z9]; rw [gm_fl_1 rc9, if_neg (by omega)], rfl⟩ (by decide) (by decide) d_p15m44_154
        · -- not taken: 137
          refine lv_aload_n hx hb d_p15m44_137 rfl (lv_at hl 2 rfl) ?_
          refine pd_get X w hy0 rfl 9 (by decide) mT_1148 rfl rfl d_p15m44_138 ?_
          refine lv_iconst (v := nI 2) hx hb d_p15m44_141 (by decide) ?_
          refine lv_iload_n hx hb d_p15m44_142 rfl (lv_at hl 3 rfl) ?_
          refine pd_imul hx hb d_p15m44_143 ?_
          refine lv_iload_n hx hb d_p15m44_144 rfl (lv_at hl 4 rfl) ?_
          refine pd_iadd hx hb d_p15m44_145 ?_
          refine lv_iconst (v := nI 3) hx hb d_p15m44_146 (by decide) ?_
          refine pd_isub hx hb d_p15m44_147 (by omega) ?_
          refine pd_iald X w ha9 (by omega) (by omega) d_p15m44_148 ?_
          refine pd_top (v' := .int (nI ((gm_fl (R i9)).getD 1 0))) (by have z := rc8 1 (by omega); rw [show ((2 * i9) + 4) - 3 = 2 * i9 + 1 by omega]; exact congrArg Value.int z) ?_
          refine lv_goto (tgt := 154) hx hb d_p15m44_149 (by decide) ?_
          exact pd_iret (v := (nI ((gm_fl (R i9)).getD 1 0))) X w ⟨by simp only [gr_cls, hix]; rw [if_neg z3, if_neg z4, if_neg z6, if_neg z7, if_pos z9]; rw [gm_fl_1 rc9, if_pos (by omega)], rfl⟩ (by decide) (by decide) d_p15m44_154
      by_cases z11 : wh = nI 5
      · -- case 5: 155
        refine lv_tableIn (tgt := 155) hx hb d_p15m44_52 (by rw [z11]; decide) (by rw [z11]; decide) (by rw [z11]; rfl) (by decide) ?_
        refine lv_iload_n hx hb d_p15m44_155 rfl (lv_at hl 1 rfl) ?_
        exact pd_iret (v := (nI t)) X w ⟨by simp only [gr_cls, hix]; rw [if_neg z3, if_neg z4, if_neg z6, if_neg z7, if_neg z9, if_pos z11]; rw [← hv, show i = k by omega], rfl⟩ (by decide) (by decide) d_p15m44_156
      by_cases z12 : wh = nI 6
      · -- case 6: 157
        refine lv_tableIn (tgt := 157) hx hb d_p15m44_52 (by rw [z12]; decide) (by rw [z12]; decide) (by rw [z12]; rfl) (by decide) ?_
        refine lv_aload_n hx hb d_p15m44_157 rfl (lv_at hl 2 rfl) ?_
        refine pd_get X w hy0 rfl 7 (by decide) mT_1146 rfl rfl d_p15m44_158 ?_
        refine lv_iload_n hx hb d_p15m44_161 rfl (lv_at hl 3 rfl) ?_
        refine pd_iald X w ha7 (by omega) (by omega) d_p15m44_162 ?_
        refine pd_top (v' := .int (nI ((R i9).1.length))) (congrArg Value.int rc1) ?_
        exact pd_iret (v := (nI ((R i9).1.length))) X w ⟨by simp only [gr_cls, hix]; rw [if_neg z3, if_neg z4, if_neg z6, if_neg z7, if_neg z9, if_neg z11, if_pos z12], rfl⟩ (by decide) (by decide) d_p15m44_163
      refine lv_tableOut (tgt := 164) hx hb d_p15m44_52 (pd_tout (lo := 0) (hi := 6) (by decide) (by intro j h1 h2; rcases (show j = 0 ∨ j = 1 ∨ j = 2 ∨ j = 3 ∨ j = 4 ∨ j = 5 ∨ j = 6 by omega) with q | q | q | q | q | q | q <;> subst q; exact fun e9 => z3 (e9.trans (by decide)); exact fun e9 => z4 (e9.trans (by decide)); exact fun e9 => z6 (e9.trans (by decide)); exact fun e9 => z7 (e9.trans (by decide)); exact fun e9 => z9 (e9.trans (by decide)); exact fun e9 => z11 (e9.trans (by decide)); exact fun e9 => z12 (e9.trans (by decide)))) (by decide) ?_
      refine lv_bipush (v := -2) hx hb d_p15m44_164 (by decide) ?_
      exact pd_iret (v := (-2)) X w ⟨by simp only [gr_cls, hix]; rw [if_neg z3, if_neg z4, if_neg z6, if_neg z7, if_neg z9, if_neg z11, if_neg z12], rfl⟩ (by decide) (by decide) d_p15m44_166
    · -- not taken: 31
      refine lv_aload_n hx hb d_p15m44_31 rfl (lv_at hl 2 rfl) ?_
      refine pd_get X w hy0 rfl 13 (by decide) mT_1152 rfl rfl d_p15m44_32 ?_
      refine lv_iload hx hb d_p15m44_35 (lv_at hl 0 rfl) ?_
      refine pd_iald X w ha13 (by omega) (by omega) d_p15m44_37 ?_
      refine pd_top (v' := .int (nI ((M i).1))) (congrArg Value.int (hMm i (by omega)).1) ?_
      have := (hMm i (by omega)).2.1
      refine lv_iload_n hx hb d_p15m44_38 rfl (lv_at hl 3 rfl) ?_
      refine pd_jne (tgt := 45) hx hb d_p15m44_39 (by decide) (by omega) (by omega) (fun q13 => ?_) (fun q13 => ?_)
      · -- taken: 45
        refine pd_iinc (k := 0) (d := 1) (lv' := [(4, .int (nI (i + 1))), (3, .int (nI t)), (0, .ref y), (1, .int (nI i9)), (2, .int wh)]) hx hb d_p15m44_45 (by decide) hl rfl (by decide) rfl (fun ls hl => ?_)
        refine lv_goto (tgt := 22) hx hb d_p15m44_48 (by decide) ?_
        exact ih (i + 1) t i9 (hi9) (hix) (by omega) (by show gr_cnt M i9 (i + 1) = _; unfold gr_cnt; rw [hv, if_neg (by omega), Nat.add_zero]) (by omega) _ _ w ls (lv_sub hl [0, 1, 2, 3, 4] rfl)
      · -- not taken: 42
        refine pd_iinc (k := 1) (d := 1) (lv' := [(3, .int (nI (t + 1))), (4, .int (nI i)), (0, .ref y), (1, .int (nI i9)), (2, .int wh)]) hx hb d_p15m44_42 (by decide) hl rfl (by decide) rfl (fun ls hl => ?_)
        refine pd_iinc (k := 1) (d := 1) (lv' := [(4, .int (nI (i + 1))), (3, .int (nI (t + 1))), (0, .ref y), (1, .int (nI i9)), (2, .int wh)]) hx hb d_p15m44_45 (by decide) hl rfl (by decide) rfl (fun ls hl => ?_)
        refine lv_goto (tgt := 22) hx hb d_p15m44_48 (by decide) ?_
        exact ih (i + 1) (t + 1) i9 (hi9) (hix) (by omega) (by show gr_cnt M i9 (i + 1) = _; unfold gr_cnt; rw [hv, if_pos (by omega)]) (by omega) _ _ w ls (lv_sub hl [0, 1, 2, 3, 4] rfl)
set_option maxHeartbeats 4000000 in
set_option maxRecDepth 100000 in
theorem c_Mod_cls (l : Launch) (G : pd_G) (h : pd_H) {y : Nat} {ad : Nat → Nat} {fv : Nat → Nat → Int32} {iv : Nat → Int32} {tl : Int64} {n : Nat} {R : Nat → pd_cr} {k : Nat} {M : Nat → pd_mr} {c0 wh : Int32} (hMO : pd_MO G h y ad fv iv tl) (hC : gm_C fv iv n R) (hM : gm_M fv iv n k M) : pd_M l y_Mod_cls prog_15_method_44_code 5 (some .int) rm_Mod_cls G h [.ref y, .int c0, .int wh] Value.int (fun r h1 => r = gr_cls n R k M c0 wh ∧ h = h1) := by
  refine pd_M.of (by decide) (Nat.le_of_ble_eq_true rfl) ?_
  intro p e s m below meth c X hmn w ls hl
  have hx := X.1
  have hb := X.2.1
  have hl : lv_has ls 5 [(0, .ref y), (1, .int c0), (2, .int wh)] := hl
  have hz_y := hMO.2.1
  have hy0 : h y = some (20, .inr (10, [.ref (ad 0), .ref (ad 1), .ref (ad 2), .int (iv 3), .int (iv 4), .int (iv 5), .ref (ad 6), .ref (ad 7), .ref (ad 8), .ref (ad 9), .ref (ad 10), .ref (ad 11), .int (iv 12), .ref (ad 13), .ref (ad 14), .ref (ad 15), .ref (ad 16), .ref (ad 17), .ref (ad 18), .ref (ad 19), .int (iv 20), .ref (ad 21), .ref (ad 22), .ref (ad 23), .ref (ad 24), .ref (ad 25), .ref (ad 26), .ref (ad 27), .ref (ad 28), .int (iv 29), .ref (ad 30), .ref (ad 31), .int (iv 32), .int (iv 33), .int (iv 34), .int (iv 35), .long tl, .int (iv 37), .int (iv 38), .int (iv 39), .int (iv 40), .ref (ad 41), .ref (ad 42), .int (iv 43)])) := hMO.1
  have ha7 : h (ad 7) = some (37, .inl (.int, 14, .inl (fv 7))) := (hMO.2.2 7 (by decide)).1
  have ha8 : h (ad 8) = some (38, .inl (.int, 14, .inl (fv 8))) := (hMO.2.2 8 (by decide)).1
  have ha9 : h (ad 9) = some (39, .inl (.int, 28, .inl (fv 9))) := (hMO.2.2 9 (by decide)).1
  have ha10 : h (ad 10) = some (40, .inl (.int, 14, .inl (fv 10))) := (hMO.2.2 10 (by decide)).1
  have ha11 : h (ad 11) = some (41, .inl (.boolean, 14, .inl (fv 11))) := (hMO.2.2 11 (by decide)).1
  have ha13 : h (ad 13) = some (43, .inl (.int, 24, .inl (fv 13))) := (hMO.2.2 13 (by decide)).1
  obtain ⟨hiv12, hn2, hn14, hCc⟩ := id hC
  obtain ⟨hiv20, hk24, hMm⟩ := id hM
  refine lv_iload_n hx hb d_p15m44_0 rfl (lv_at hl 1 rfl) ?_
  refine lv_iconst (v := nI 0) hx hb d_p15m44_1 (by decide) ?_
  refine lv_aload_n hx hb d_p15m44_2 rfl (lv_at hl 0 rfl) ?_
  refine pd_get X w hy0 rfl 12 (by decide) mT_1151 rfl rfl d_p15m44_3 ?_
  refine pd_top (v' := .int (nI n)) (congrArg Value.int hiv12) ?_
  refine lv_iconst (v := nI 1) hx hb d_p15m44_6 (by decide) ?_
  refine lv_isub hx hb d_p15m44_7 ?_
  refine pd_cS (As := [.int c0, .int (nI 0), .int (nI n - nI 1)]) (rest := []) X w (c_Mod_inI l G h) ok_Mod_inI mT_1278 mT_1277 ⟨by decide, by decide⟩ rfl hl.1 rfl (Nat.le_of_ble_eq_true rfl) d_p15m44_8 ⟨by decide, by decide⟩ (fun r1 h2 H locs hp3 w => ?_)
  refine W.widen (k := 0) (n := 0) (by decide) (by decide) ?_
  obtain ⟨e4, rfl⟩ := hp3
  refine pd_bne (tgt := 17) hx hb d_p15m44_11 (by decide) (fun q5 => ?_) (fun q5 => ?_)
  · -- taken: 17
    obtain ⟨i9, hi9, hc0, hix⟩ := pd_in_y (k := n) (by omega) (e4.symm.trans q5)
    rw [hc0] at hl
    have hl : lv_has ls 5 [(0, .ref y), (1, .int (nI i9)), (2, .int wh)] := hl
    obtain ⟨rc1, rc2, rc3, rc4, rc5, rc6, rc7, rc8, rc9, rc10⟩ := hCc i9 hi9
    refine lv_iconst (v := nI 0) hx hb d_p15m44_17 (by decide) ?_
    refine lv_istore_n (lv' := [(3, .int (nI 0)), (0, .ref y), (1, .int (nI i9)), (2, .int wh)]) hx hb d_p15m44_18 rfl hl (by decide) rfl (fun ls hl => ?_)
    refine lv_iconst (v := nI 0) hx hb d_p15m44_19 (by decide) ?_
    refine lv_istore (lv' := [(4, .int (nI 0)), (3, .int (nI 0)), (0, .ref y), (1, .int (nI i9)), (2, .int wh)]) hx hb d_p15m44_20 hl (by decide) rfl (fun ls hl => ?_)
    exact lp_Mod_cls_22 l G h hMO hC hM X hmn (k + 1) 0 0 i9 (hi9) (hix) (by omega) (rfl) (by omega) _ _ w ls (lv_sub hl [0, 1, 2, 3, 4] rfl)
  · -- not taken: 14
    refine lv_bipush (v := -2) hx hb d_p15m44_14 (by decide) ?_
    exact pd_iret (v := (-2)) X w ⟨by simp only [gr_cls, pd_in_n (k := n) (by omega) (e4.symm.trans q5)], rfl⟩ (by decide) (by decide) d_p15m44_16
theorem d_p15m45_0 : decode prog_15_method_45_code 0 = .ok (.iload_n 1, 1) := by decide +kernel
theorem d_p15m45_1 : decode prog_15_method_45_code 1 = .ok (.iconst 0, 1) := by decide +kernel
theorem d_p15m45_2 : decode prog_15_method_45_code 2 = .ok (.aload_n 0, 1) := by decide +kernel
theorem d_p15m45_3 : decode prog_15_method_45_code 3 = .ok (.getfield 148, 3) := by decide +kernel
theorem d_p15m45_6 : decode prog_15_method_45_code 6 = .ok (.iconst 1, 1) := by decide +kernel
theorem d_p15m45_7 : decode prog_15_method_45_code 7 = .ok (.isub, 1) := by decide +kernel
theorem d_p15m45_8 : decode prog_15_method_45_code 8 = .ok (.invokestatic 109, 3) := by decide +kernel
theorem d_p15m45_11 : decode prog_15_method_45_code 11 = .ok (.ifCond .ne 6, 3) := by decide +kernel
theorem d_p15m45_14 : decode prog_15_method_45_code 14 = .ok (.bipush (-2), 2) := by decide +kernel
theorem d_p15m45_16 : decode prog_15_method_45_code 16 = .ok (.ireturn, 1) := by decide +kernel
theorem d_p15m45_17 : decode prog_15_method_45_code 17 = .ok (.iload_n 2, 1) := by decide +kernel
theorem d_p15m45_18 : decode prog_15_method_45_code 18 = .ok (.tableswitch 66 0 3 #[30, 37, 52, 59], 30) := by decide +kernel
theorem d_p15m45_48 : decode prog_15_method_45_code 48 = .ok (.aload_n 0, 1) := by decide +kernel
theorem d_p15m45_49 : decode prog_15_method_45_code 49 = .ok (.getfield 42, 3) := by decide +kernel
theorem d_p15m45_52 : decode prog_15_method_45_code 52 = .ok (.iload_n 1, 1) := by decide +kernel
theorem d_p15m45_53 : decode prog_15_method_45_code 53 = .ok (.iaload, 1) := by decide +kernel
theorem d_p15m45_54 : decode prog_15_method_45_code 54 = .ok (.ireturn, 1) := by decide +kernel
theorem d_p15m45_55 : decode prog_15_method_45_code 55 = .ok (.aload_n 0, 1) := by decide +kernel
theorem d_p15m45_56 : decode prog_15_method_45_code 56 = .ok (.getfield 60, 3) := by decide +kernel
theorem d_p15m45_59 : decode prog_15_method_45_code 59 = .ok (.iload_n 1, 1) := by decide +kernel
theorem d_p15m45_60 : decode prog_15_method_45_code 60 = .ok (.baload, 1) := by decide +kernel
theorem d_p15m45_61 : decode prog_15_method_45_code 61 = .ok (.ifCond .eq 7, 3) := by decide +kernel
theorem d_p15m45_64 : decode prog_15_method_45_code 64 = .ok (.iconst 1, 1) := by decide +kernel
theorem d_p15m45_65 : decode prog_15_method_45_code 65 = .ok (.goto 4, 3) := by decide +kernel
theorem d_p15m45_68 : decode prog_15_method_45_code 68 = .ok (.iconst 0, 1) := by decide +kernel
theorem d_p15m45_69 : decode prog_15_method_45_code 69 = .ok (.ireturn, 1) := by decide +kernel
theorem d_p15m45_70 : decode prog_15_method_45_code 70 = .ok (.aload_n 0, 1) := by decide +kernel
theorem d_p15m45_71 : decode prog_15_method_45_code 71 = .ok (.getfield 45, 3) := by decide +kernel
theorem d_p15m45_74 : decode prog_15_method_45_code 74 = .ok (.iload_n 1, 1) := by decide +kernel
theorem d_p15m45_75 : decode prog_15_method_45_code 75 = .ok (.iaload, 1) := by decide +kernel
theorem d_p15m45_76 : decode prog_15_method_45_code 76 = .ok (.ireturn, 1) := by decide +kernel
theorem d_p15m45_77 : decode prog_15_method_45_code 77 = .ok (.aload_n 0, 1) := by decide +kernel
theorem d_p15m45_78 : decode prog_15_method_45_code 78 = .ok (.getfield 51, 3) := by decide +kernel
theorem d_p15m45_81 : decode prog_15_method_45_code 81 = .ok (.iload_n 1, 1) := by decide +kernel
theorem d_p15m45_82 : decode prog_15_method_45_code 82 = .ok (.iaload, 1) := by decide +kernel
theorem d_p15m45_83 : decode prog_15_method_45_code 83 = .ok (.ireturn, 1) := by decide +kernel
theorem d_p15m45_84 : decode prog_15_method_45_code 84 = .ok (.bipush (-2), 2) := by decide +kernel
theorem d_p15m45_86 : decode prog_15_method_45_code 86 = .ok (.ireturn, 1) := by decide +kernel
abbrev y_Mod_member : MethodName := ⟨"PolicyDeskModel", "member", "(II)I"⟩
theorem ok_Mod_member : pd_ok y_Mod_member prog_15_method_45_code 3 (some .int) 2 := ⟨mT_1462, mT_21, by decide, by decide +kernel⟩
abbrev rm_Mod_member : Room := { frames := 1, cells := 0, slots := 0, locals := 22 }
set_option maxHeartbeats 4000000 in
set_option maxRecDepth 100000 in
theorem c_Mod_member (l : Launch) (G : pd_G) (h : pd_H) {y : Nat} {ad : Nat → Nat} {fv : Nat → Nat → Int32} {iv : Nat → Int32} {tl : Int64} {n : Nat} {k : Nat} {M : Nat → pd_mr} {c0 wh : Int32} (hMO : pd_MO G h y ad fv iv tl) (hM : gm_M fv iv n k M) : pd_M l y_Mod_member prog_15_method_45_code 3 (some .int) rm_Mod_member G h [.ref y, .int c0, .int wh] Value.int (fun r h1 => r = gr_member k M c0 wh ∧ h = h1) := by
  refine pd_M.of (by decide) (Nat.le_of_ble_eq_true rfl) ?_
  intro p e s m below meth c X hmn w ls hl
  have hx := X.1
  have hb := X.2.1
  have hl : lv_has ls 3 [(0, .ref y), (1, .int c0), (2, .int wh)] := hl
  have hz_y := hMO.2.1
  have hy0 : h y = some (20, .inr (10, [.ref (ad 0), .ref (ad 1), .ref (ad 2), .int (iv 3), .int (iv 4), .int (iv 5), .ref (ad 6), .ref (ad 7), .ref (ad 8), .ref (ad 9), .ref (ad 10), .ref (ad 11), .int (iv 12), .ref (ad 13), .ref (ad 14), .ref (ad 15), .ref (ad 16), .ref (ad 17), .ref (ad 18), .ref (ad 19), .int (iv 20), .ref (ad 21), .ref (ad 22), .ref (ad 23), .ref (ad 24), .ref (ad 25), .ref (ad 26), .ref (ad 27), .ref (ad 28), .int (iv 29), .ref (ad 30), .ref (ad 31), .int (iv 32), .int (iv 33), .int (iv 34), .int (iv 35), .long tl, .int (iv 37), .int (iv 38), .int (iv 39), .int (iv 40), .ref (ad 41), .ref (ad 42), .int (iv 43)])) := hMO.1
  have ha13 : h (ad 13) = some (43, .inl (.int, 24, .inl (fv 13))) := (hMO.2.2 13 (by decide)).1
  have ha14 : h (ad 14) = some (44, .inl (.int, 24, .inl (fv 14))) := (hMO.2.2 14 (by decide)).1
  have ha16 : h (ad 16) = some (46, .inl (.int, 24, .inl (fv 16))) := (hMO.2.2 16 (by decide)).1
  have ha19 : h (ad 19) = some (49, .inl (.boolean, 24, .inl (fv 19))) := (hMO.2.2 19 (by decide)).1
  obtain ⟨hiv20, hk24, hMm⟩ := id hM
  refine lv_iload_n hx hb d_p15m45_0 rfl (lv_at hl 1 rfl) ?_
  refine lv_iconst (v := nI 0) hx hb d_p15m45_1 (by decide) ?_
  refine lv_aload_n hx hb d_p15m45_2 rfl (lv_at hl 0 rfl) ?_
  refine pd_get X w hy0 rfl 20 (by decide) mT_1159 rfl rfl d_p15m45_3 ?_
  refine pd_top (v' := .int (nI k)) (congrArg Value.int hiv20) ?_
  refine lv_iconst (v := nI 1) hx hb d_p15m45_6 (by decide) ?_
  refine lv_isub hx hb d_p15m45_7 ?_
  refine pd_cS (As := [.int c0, .int (nI 0), .int (nI k - nI 1)]) (rest := []) X w (c_Mod_inI l G h) ok_Mod_inI mT_1278 mT_1277 ⟨by decide, by decide⟩ rfl hl.1 rfl (Nat.le_of_ble_eq_true rfl) d_p15m45_8 ⟨by decide, by decide⟩ (fun r1 h2 H locs hp3 w => ?_)
  refine W.widen (k := 0) (n := 0) (by decide) (by decide) ?_
  obtain ⟨e4, rfl⟩ := hp3
  refine pd_bne (tgt := 17) hx hb d_p15m45_11 (by decide) (fun q5 => ?_) (fun q5 => ?_)
  · -- taken: 17
    obtain ⟨i9, hi9, hc0, hix⟩ := pd_in_y (k := k) (by omega) (e4.symm.trans q5)
    rw [hc0] at hl
    have hl : lv_has ls 3 [(0, .ref y), (1, .int (nI i9)), (2, .int wh)] := hl
    obtain ⟨mo1, mo2, mo3, mo4, mo5, mo6, mo7, mo8, mo9, mo10, mo11, mo12, mo13⟩ := hMm i9 hi9
    refine lv_iload_n hx hb d_p15m45_17 rfl (lv_at hl 2 rfl) ?_
    by_cases z7 : wh = nI 0
    · -- case 0: 48
      refine lv_tableIn (tgt := 48) hx hb d_p15m45_18 (by rw [z7]; decide) (by rw [z7]; decide) (by rw [z7]; rfl) (by decide) ?_
      refine lv_aload_n hx hb d_p15m45_48 rfl (lv_at hl 0 rfl) ?_
      refine pd_get X w hy0 rfl 13 (by decide) mT_1152 rfl rfl d_p15m45_49 ?_
      refine lv_iload_n hx hb d_p15m45_52 rfl (lv_at hl 1 rfl) ?_
      refine pd_iald X w ha13 (by omega) (by omega) d_p15m45_53 ?_
      refine pd_top (v' := .int (nI ((M i9).1))) (congrArg Value.int mo1) ?_
      exact pd_iret (v := (nI ((M i9).1))) X w ⟨by simp only [gr_member, hix]; rw [if_pos z7], rfl⟩ (by decide) (by decide) d_p15m45_54
    by_cases z8 : wh = nI 1
    · -- case 1: 55
      refine lv_tableIn (tgt := 55) hx hb d_p15m45_18 (by rw [z8]; decide) (by rw [z8]; decide) (by rw [z8]; rfl) (by decide) ?_
      refine lv_aload_n hx hb d_p15m45_55 rfl (lv_at hl 0 rfl) ?_
      refine pd_get X w hy0 rfl 19 (by decide) mT_1158 rfl rfl d_p15m45_56 ?_
      refine lv_iload_n hx hb d_p15m45_59 rfl (lv_at hl 1 rfl) ?_
      refine pd_zald X w ha19 (by omega) (by omega) d_p15m45_60 ?_
      refine pd_top (v' := .int (pd_b (gr_ism (M i9).2.2.1))) (congrArg Value.int mo13) ?_
      refine pd_beq (tgt := 68) hx hb d_p15m45_61 (by decide) (fun q9 => ?_) (fun q9 => ?_)
      · -- taken: 68
        refine lv_iconst (v := nI 0) hx hb d_p15m45_68 (by decide) ?_
        exact pd_iret (v := (nI 0)) X w ⟨by simp only [gr_member, hix]; rw [if_neg z7, if_pos z8]; rw [q9]; rfl, rfl⟩ (by decide) (by decide) d_p15m45_69
      · -- not taken: 64
        refine lv_iconst (v := nI 1) hx hb d_p15m45_64 (by decide) ?_
        refine lv_goto (tgt := 69) hx hb d_p15m45_65 (by decide) ?_
        exact pd_iret (v := (nI 1)) X w ⟨by simp only [gr_member, hix]; rw [if_neg z7, if_pos z8]; rw [q9]; rfl, rfl⟩ (by decide) (by decide) d_p15m45_69
    by_cases z10 : wh = nI 2
    · -- case 2: 70
      refine lv_tableIn (tgt := 70) hx hb d_p15m45_18 (by rw [z10]; decide) (by rw [z10]; decide) (by rw [z10]; rfl) (by decide) ?_
      refine lv_aload_n hx hb d_p15m45_70 rfl (lv_at hl 0 rfl) ?_
      refine pd_get X w hy0 rfl 14 (by decide) mT_1153 rfl rfl d_p15m45_71 ?_
      refine lv_iload_n hx hb d_p15m45_74 rfl (lv_at hl 1 rfl) ?_
      refine pd_iald X w ha14 (by omega) (by omega) d_p15m45_75 ?_
      refine pd_top (v' := .int (nI ((M i9).2.2.2))) (congrArg Value.int mo3) ?_
      exact pd_iret (v := (nI ((M i9).2.2.2))) X w ⟨by simp only [gr_member, hix]; rw [if_neg z7, if_neg z8, if_pos z10], rfl⟩ (by decide) (by decide) d_p15m45_76
    by_cases z11 : wh = nI 3
    · -- case 3: 77
      refine lv_tableIn (tgt := 77) hx hb d_p15m45_18 (by rw [z11]; decide) (by rw [z11]; decide) (by rw [z11]; rfl) (by decide) ?_
      refine lv_aload_n hx hb d_p15m45_77 rfl (lv_at hl 0 rfl) ?_
      refine pd_get X w hy0 rfl 16 (by decide) mT_1155 rfl rfl d_p15m45_78 ?_
      refine lv_iload_n hx hb d_p15m45_81 rfl (lv_at hl 1 rfl) ?_
      refine pd_iald X w ha16 (by omega) (by omega) d_p15m45_82 ?_
      refine pd_top (v' := .int (nI ((M i9).2.1.length))) (congrArg Value.int mo5) ?_
      exact pd_iret (v := (nI ((M i9).2.1.length))) X w ⟨by simp only [gr_member, hix]; rw [if_neg z7, if_neg z8, if_neg z10, if_pos z11], rfl⟩ (by decide) (by decide) d_p15m45_83
    refine lv_tableOut (tgt := 84) hx hb d_p15m45_18 (pd_tout (lo := 0) (hi := 3) (by decide) (by intro j h1 h2; rcases (show j = 0 ∨ j = 1 ∨ j = 2 ∨ j = 3 by omega) with q | q | q | q <;> subst q; exact fun e9 => z7 (e9.trans (by decide)); exact fun e9 => z8 (e9.trans (by decide)); exact fun e9 => z10 (e9.trans (by decide)); exact fun e9 => z11 (e9.trans (by decide)))) (by decide) ?_
    refine lv_bipush (v := -2) hx hb d_p15m45_84 (by decide) ?_
    exact pd_iret (v := (-2)) X w ⟨by simp only [gr_member, hix]; rw [if_neg z7, if_neg z8, if_neg z10, if_neg z11], rfl⟩ (by decide) (by decide) d_p15m45_86
  · -- not taken: 14
    refine lv_bipush (v := -2) hx hb d_p15m45_14 (by decide) ?_
    exact pd_iret (v := (-2)) X w ⟨by simp only [gr_member, pd_in_n (k := k) (by omega) (e4.symm.trans q5)], rfl⟩ (by decide) (by decide) d_p15m45_16
theorem d_p15m48_0 : decode prog_15_method_48_code 0 = .ok (.aload_n 0, 1) := by decide +kernel
theorem d_p15m48_1 : decode prog_15_method_48_code 1 = .ok (.getfield 281, 3) := by decide +kernel
theorem d_p15m48_4 : decode prog_15_method_48_code 4 = .ok (.lreturn, 1) := by decide +kernel
abbrev y_Mod_total : MethodName := ⟨"PolicyDeskModel", "total", "()J"⟩
theorem ok_Mod_total : pd_ok y_Mod_total prog_15_method_48_code 1 (some .long) 0 := ⟨mT_1474, mT_21, by decide, by decide +kernel⟩
abbrev rm_Mod_total : Room := { frames := 0, cells := 0, slots := 0, locals := 0 }
set_option maxHeartbeats 4000000 in
set_option maxRecDepth 100000 in
theorem c_Mod_total (l : Launch) (G : pd_G) (h : pd_H) {y : Nat} {ad : Nat → Nat} {fv : Nat → Nat → Int32} {iv : Nat → Int32} {tl : Int64} (hMO : pd_MO G h y ad fv iv tl) : pd_M l y_Mod_total prog_15_method_48_code 1 (some .long) rm_Mod_total G h [.ref y] Value.long (fun r h1 => r = tl ∧ h = h1) := by
  refine pd_M.of (by decide) (Nat.le_of_ble_eq_true rfl) ?_
  intro p e s m below meth c X hmn w ls hl
  have hx := X.1
  have hb := X.2.1
  have hl : lv_has ls 1 [(0, .ref y)] := hl
  have hz_y := hMO.2.1
  have hy0 : h y = some (20, .inr (10, [.ref (ad 0), .ref (ad 1), .ref (ad 2), .int (iv 3), .int (iv 4), .int (iv 5), .ref (ad 6), .ref (ad 7), .ref (ad 8), .ref (ad 9), .ref (ad 10), .ref (ad 11), .int (iv 12), .ref (ad 13), .ref (ad 14), .ref (ad 15), .ref (ad 16), .ref (ad 17), .ref (ad 18), .ref (ad 19), .int (iv 20), .ref (ad 21), .ref (ad 22), .ref (ad 23), .ref (ad 24), .ref (ad 25), .ref (ad 26), .ref (ad 27), .ref (ad 28), .int (iv 29), .ref (ad 30), .ref (ad 31), .int (iv 32), .int (iv 33), .int (iv 34), .int (iv 35), .long tl, .int (iv 37), .int (iv 38), .int (iv 39), .int (iv 40), .ref (ad 41), .ref (ad 42), .int (iv 43)])) := hMO.1
  refine lv_aload_n hx hb d_p15m48_0 rfl (lv_at hl 0 rfl) ?_
  refine pd_get X w hy0 rfl 36 (by decide) mT_1175 rfl rfl d_p15m48_1 ?_
  exact pd_lret (v := tl) X w ⟨rfl, rfl⟩ (by decide) (by decide) d_p15m48_4
theorem d_p15m49_0 : decode prog_15_method_49_code 0 = .ok (.iload_n 1, 1) := by decide +kernel
theorem d_p15m49_1 : decode prog_15_method_49_code 1 = .ok (.tableswitch 87 0 7 #[47, 52, 57, 62, 67, 72, 77, 82], 47) := by decide +kernel
theorem d_p15m49_48 : decode prog_15_method_49_code 48 = .ok (.aload_n 0, 1) := by decide +kernel
theorem d_p15m49_49 : decode prog_15_method_49_code 49 = .ok (.getfield 38, 3) := by decide +kernel
theorem d_p15m49_52 : decode prog_15_method_49_code 52 = .ok (.ireturn, 1) := by decide +kernel
theorem d_p15m49_53 : decode prog_15_method_49_code 53 = .ok (.aload_n 0, 1) := by decide +kernel
theorem d_p15m49_54 : decode prog_15_method_49_code 54 = .ok (.getfield 148, 3) := by decide +kernel
theorem d_p15m49_57 : decode prog_15_method_49_code 57 = .ok (.ireturn, 1) := by decide +kernel
theorem d_p15m49_58 : decode prog_15_method_49_code 58 = .ok (.aload_n 0, 1) := by decide +kernel
theorem d_p15m49_59 : decode prog_15_method_49_code 59 = .ok (.getfield 256, 3) := by decide +kernel
theorem d_p15m49_62 : decode prog_15_method_49_code 62 = .ok (.ireturn, 1) := by decide +kernel
theorem d_p15m49_63 : decode prog_15_method_49_code 63 = .ok (.aload_n 0, 1) := by decide +kernel
theorem d_p15m49_64 : decode prog_15_method_49_code 64 = .ok (.getfield 275, 3) := by decide +kernel
theorem d_p15m49_67 : decode prog_15_method_49_code 67 = .ok (.ireturn, 1) := by decide +kernel
theorem d_p15m49_68 : decode prog_15_method_49_code 68 = .ok (.aload_n 0, 1) := by decide +kernel
theorem d_p15m49_69 : decode prog_15_method_49_code 69 = .ok (.getfield 278, 3) := by decide +kernel
theorem d_p15m49_72 : decode prog_15_method_49_code 72 = .ok (.ireturn, 1) := by decide +kernel
theorem d_p15m49_73 : decode prog_15_method_49_code 73 = .ok (.aload_n 0, 1) := by decide +kernel
theorem d_p15m49_74 : decode prog_15_method_49_code 74 = .ok (.getfield 177, 3) := by decide +kernel
theorem d_p15m49_77 : decode prog_15_method_49_code 77 = .ok (.ireturn, 1) := by decide +kernel
theorem d_p15m49_78 : decode prog_15_method_49_code 78 = .ok (.aload_n 0, 1) := by decide +kernel
theorem d_p15m49_79 : decode prog_15_method_49_code 79 = .ok (.getfield 113, 3) := by decide +kernel
theorem d_p15m49_82 : decode prog_15_method_49_code 82 = .ok (.ireturn, 1) := by decide +kernel
theorem d_p15m49_83 : decode prog_15_method_49_code 83 = .ok (.aload_n 0, 1) := by decide +kernel
theorem d_p15m49_84 : decode prog_15_method_49_code 84 = .ok (.getfield 295, 3) := by decide +kernel
theorem d_p15m49_87 : decode prog_15_method_49_code 87 = .ok (.ireturn, 1) := by decide +kernel
theorem d_p15m49_88 : decode prog_15_method_49_code 88 = .ok (.iconst (-1), 1) := by decide +kernel
theorem d_p15m49_89 : decode prog_15_method_49_code 89 = .ok (.ireturn, 1) := by decide +kernel
abbrev y_Mod_count : MethodName := ⟨"PolicyDeskModel", "count", "(I)I"⟩
theorem ok_Mod_count : pd_ok y_Mod_count prog_15_method_49_code 2 (some .int) 1 := ⟨mT_1478, mT_21, by decide, by decide +kernel⟩
abbrev rm_Mod_count : Room := { frames := 0, cells := 0, slots := 0, locals := 0 }
set_option maxHeartbeats 4000000 in
set_option maxRecDepth 100000 in
theorem c_Mod_count (l : Launch) (G : pd_G) (h : pd_H) {y : Nat} {ad : Nat → Nat} {fv : Nat → Nat → Int32} {iv : Nat → Int32} {tl : Int64} {n k u an gn sn tn dn : Nat} {wh : Int32} (hMO : pd_MO G h y ad fv iv tl) (hcn : iv 12 = nI n ∧ iv 20 = nI k ∧ iv 29 = nI u ∧ iv 32 = nI an ∧ iv 33 = nI gn ∧ iv 5 = nI sn ∧ iv 3 = nI tn ∧ iv 34 = nI dn) : pd_M l y_Mod_count prog_15_method_49_code 2 (some .int) rm_Mod_count G h [.ref y, .int wh] Value.int (fun r h1 => r = gr_count n k u an gn sn tn dn wh ∧ h = h1) := by
  refine pd_M.of (by decide) (Nat.le_of_ble_eq_true rfl) ?_
  intro p e s m below meth c X hmn w ls hl
  have hx := X.1
  have hb := X.2.1
  have hl : lv_has ls 2 [(0, .ref y), (1, .int wh)] := hl
  have hz_y := hMO.2.1
  have hy0 : h y = some (20, .inr (10, [.ref (ad 0), .ref (ad 1), .ref (ad 2), .int (iv 3), .int (iv 4), .int (iv 5), .ref (ad 6), .ref (ad 7), .ref (ad 8), .ref (ad 9), .ref (ad 10), .ref (ad 11), .int (iv 12), .ref (ad 13), .ref (ad 14), .ref (ad 15), .ref (ad 16), .ref (ad 17), .ref (ad 18), .ref (ad 19), .int (iv 20), .ref (ad 21), .ref (ad 22), .ref (ad 23), .ref (ad 24), .ref (ad 25), .ref (ad 26), .ref (ad 27), .ref (ad 28), .int (iv 29), .ref (ad 30), .ref (ad 31), .int (iv 32), .int (iv 33), .int (iv 34), .int (iv 35), .long tl, .int (iv 37), .int (iv 38), .int (iv 39), .int (iv 40), .ref (ad 41), .ref (ad 42), .int (iv 43)])) := hMO.1
  refine lv_iload_n hx hb d_p15m49_0 rfl (lv_at hl 1 rfl) ?_
  by_cases z2 : wh = nI 0
  · -- case 0: 48
    refine lv_tableIn (tgt := 48) hx hb d_p15m49_1 (by rw [z2]; decide) (by rw [z2]; decide) (by rw [z2]; rfl) (by decide) ?_
    refine lv_aload_n hx hb d_p15m49_48 rfl (lv_at hl 0 rfl) ?_
    refine pd_get X w hy0 rfl 12 (by decide) mT_1151 rfl rfl d_p15m49_49 ?_
    exact pd_iret (v := (iv 12)) X w ⟨by unfold gr_count; rw [if_pos z2]; exact hcn.1, rfl⟩ (by decide) (by decide) d_p15m49_52
  by_cases z3 : wh = nI 1
  · -- case 1: 53
    refine lv_tableIn (tgt := 53) hx hb d_p15m49_1 (by rw [z3]; decide) (by rw [z3]; decide) (by rw [z3]; rfl) (by decide) ?_
    refine lv_aload_n hx hb d_p15m49_53 rfl (lv_at hl 0 rfl) ?_
    refine pd_get X w hy0 rfl 20 (by decide) mT_1159 rfl rfl d_p15m49_54 ?_
    exact pd_iret (v := (iv 20)) X w ⟨by unfold gr_count; rw [if_neg z2, if_pos z3]; exact hcn.2.1, rfl⟩ (by decide) (by decide) d_p15m49_57
  by_cases z4 : wh = nI 2
  · -- case 2: 58
    refine lv_tableIn (tgt := 58) hx hb d_p15m49_1 (by rw [z4]; decide) (by rw [z4]; decide) (by rw [z4]; rfl) (by decide) ?_
    refine lv_aload_n hx hb d_p15m49_58 rfl (lv_at hl 0 rfl) ?_
    refine pd_get X w hy0 rfl 29 (by decide) mT_1168 rfl rfl d_p15m49_59 ?_
    exact pd_iret (v := (iv 29)) X w ⟨by unfold gr_count; rw [if_neg z2, if_neg z3, if_pos z4]; exact hcn.2.2.1, rfl⟩ (by decide) (by decide) d_p15m49_62
  by_cases z5 : wh = nI 3
  · -- case 3: 63
    refine lv_tableIn (tgt := 63) hx hb d_p15m49_1 (by rw [z5]; decide) (by rw [z5]; decide) (by rw [z5]; rfl) (by decide) ?_
    refine lv_aload_n hx hb d_p15m49_63 rfl (lv_at hl 0 rfl) ?_
    refine pd_get X w hy0 rfl 32 (by decide) mT_1171 rfl rfl d_p15m49_64 ?_
    exact pd_iret (v := (iv 32)) X w ⟨by unfold gr_count; rw [if_neg z2, if_neg z3, if_neg z4, if_pos z5]; exact hcn.2.2.2.1, rfl⟩ (by decide) (by decide) d_p15m49_67
  by_cases z6 : wh = nI 4
  · -- case 4: 68
    refine lv_tableIn (tgt := 68) hx hb d_p15m49_1 (by rw [z6]; decide) (by rw [z6]; decide) (by rw [z6]; rfl) (by decide) ?_
    refine lv_aload_n hx hb d_p15m49_68 rfl (lv_at hl 0 rfl) ?_
    refine pd_get X w hy0 rfl 33 (by decide) mT_1172 rfl rfl d_p15m49_69 ?_
    exact pd_iret (v := (iv 33)) X w ⟨by unfold gr_count; rw [if_neg z2, if_neg z3, if_neg z4, if_neg z5, if_pos z6]; exact hcn.2.2.2.2.1, rfl⟩ (by decide) (by decide) d_p15m49_72
  by_cases z7 : wh = nI 5
  · -- case 5: 73
    refine lv_tableIn (tgt := 73) hx hb d_p15m49_1 (by rw [z7]; decide) (by rw [z7]; decide) (by rw [z7]; rfl) (by decide) ?_
    refine lv_aload_n hx hb d_p15m49_73 rfl (lv_at hl 0 rfl) ?_
    refine pd_get X w hy0 rfl 5 (by decide) mT_1144 rfl rfl d_p15m49_74 ?_
    exact pd_iret (v := (iv 5)) X w ⟨by unfold gr_count; rw [if_neg z2, if_neg z3, if_neg z4, if_neg z5, if_neg z6, if_pos z7]; exact hcn.2.2.2.2.2.1, rfl⟩ (by decide) (by decide) d_p15m49_77
  by_cases z8 : wh = nI 6
  · -- case 6: 78
    refine lv_tableIn (tgt := 78) hx hb d_p15m49_1 (by rw [z8]; decide) (by rw [z8]; decide) (by rw [z8]; rfl) (by decide) ?_
    refine lv_aload_n hx hb d_p15m49_78 rfl (lv_at hl 0 rfl) ?_
    refine pd_get X w hy0 rfl 3 (by decide) mT_1142 rfl rfl d_p15m49_79 ?_
    exact pd_iret (v := (iv 3)) X w ⟨by unfold gr_count; rw [if_neg z2, if_neg z3, if_neg z4, if_neg z5, if_neg z6, if_neg z7, if_pos z8]; exact hcn.2.2.2.2.2.2.1, rfl⟩ (by decide) (by decide) d_p15m49_82
  by_cases z9 : wh = nI 7
  · -- case 7: 83
    refine lv_tableIn (tgt := 83) hx hb d_p15m49_1 (by rw [z9]; decide) (by rw [z9]; decide) (by rw [z9]; rfl) (by decide) ?_
    refine lv_aload_n hx hb d_p15m49_83 rfl (lv_at hl 0 rfl) ?_
    refine pd_get X w hy0 rfl 34 (by decide) mT_1173 rfl rfl d_p15m49_84 ?_
    exact pd_iret (v := (iv 34)) X w ⟨by unfold gr_count; rw [if_neg z2, if_neg z3, if_neg z4, if_neg z5, if_neg z6, if_neg z7, if_neg z8, if_pos z9]; exact hcn.2.2.2.2.2.2.2, rfl⟩ (by decide) (by decide) d_p15m49_87
  refine lv_tableOut (tgt := 88) hx hb d_p15m49_1 (pd_tout (lo := 0) (hi := 7) (by decide) (by intro j h1 h2; rcases (show j = 0 ∨ j = 1 ∨ j = 2 ∨ j = 3 ∨ j = 4 ∨ j = 5 ∨ j = 6 ∨ j = 7 by omega) with q | q | q | q | q | q | q | q <;> subst q; exact fun e9 => z2 (e9.trans (by decide)); exact fun e9 => z3 (e9.trans (by decide)); exact fun e9 => z4 (e9.trans (by decide)); exact fun e9 => z5 (e9.trans (by decide)); exact fun e9 => z6 (e9.trans (by decide)); exact fun e9 => z7 (e9.trans (by decide)); exact fun e9 => z8 (e9.trans (by decide)); exact fun e9 => z9 (e9.trans (by decide)))) (by decide) ?_
  refine lv_iconst (v := -1) hx hb d_p15m49_88 (by decide) ?_
  exact pd_iret (v := (-1)) X w ⟨by unfold gr_count; rw [if_neg z2, if_neg z3, if_neg z4, if_neg z5, if_neg z6, if_neg z7, if_neg z8, if_neg z9], rfl⟩ (by decide) (by decide) d_p15m49_89
theorem gm_ix12 {an : Nat} {k0 : Int32} (h : pd_ix 12 k0 = none) : pd_ix (min an 12) k0 = none := by
  by_cases h0 : k0 < 0
  · exact pd_ix_neg h0
  · refine pd_ix_ge h0 (fun z => ?_)
    have : k0 < nI 12 := by
      rw [Int32.lt_iff_toInt_lt, nI_toInt (by omega)] at z ⊢
      omega
    rw [pd_ix_in h0 this] at h
    cases h
theorem d_p15m46_0 : decode prog_15_method_46_code 0 = .ok (.iload_n 1, 1) := by decide +kernel
theorem d_p15m46_1 : decode prog_15_method_46_code 1 = .ok (.iconst 0, 1) := by decide +kernel
theorem d_p15m46_2 : decode prog_15_method_46_code 2 = .ok (.bipush 11, 2) := by decide +kernel
theorem d_p15m46_4 : decode prog_15_method_46_code 4 = .ok (.invokestatic 109, 3) := by decide +kernel
theorem d_p15m46_7 : decode prog_15_method_46_code 7 = .ok (.ifCond .eq 11, 3) := by decide +kernel
theorem d_p15m46_10 : decode prog_15_method_46_code 10 = .ok (.iload_n 1, 1) := by decide +kernel
theorem d_p15m46_11 : decode prog_15_method_46_code 11 = .ok (.aload_n 0, 1) := by decide +kernel
theorem d_p15m46_12 : decode prog_15_method_46_code 12 = .ok (.getfield 275, 3) := by decide +kernel
theorem d_p15m46_15 : decode prog_15_method_46_code 15 = .ok (.if_icmp .lt 6, 3) := by decide +kernel
theorem d_p15m46_18 : decode prog_15_method_46_code 18 = .ok (.bipush (-2), 2) := by decide +kernel
theorem d_p15m46_20 : decode prog_15_method_46_code 20 = .ok (.ireturn, 1) := by decide +kernel
theorem d_p15m46_21 : decode prog_15_method_46_code 21 = .ok (.aload_n 0, 1) := by decide +kernel
theorem d_p15m46_22 : decode prog_15_method_46_code 22 = .ok (.getfield 275, 3) := by decide +kernel
theorem d_p15m46_25 : decode prog_15_method_46_code 25 = .ok (.iconst 1, 1) := by decide +kernel
theorem d_p15m46_26 : decode prog_15_method_46_code 26 = .ok (.isub, 1) := by decide +kernel
theorem d_p15m46_27 : decode prog_15_method_46_code 27 = .ok (.iload_n 1, 1) := by decide +kernel
theorem d_p15m46_28 : decode prog_15_method_46_code 28 = .ok (.isub, 1) := by decide +kernel
theorem d_p15m46_29 : decode prog_15_method_46_code 29 = .ok (.bipush 12, 2) := by decide +kernel
theorem d_p15m46_31 : decode prog_15_method_46_code 31 = .ok (.irem, 1) := by decide +kernel
theorem d_p15m46_32 : decode prog_15_method_46_code 32 = .ok (.istore_n 3, 1) := by decide +kernel
theorem d_p15m46_33 : decode prog_15_method_46_code 33 = .ok (.iload_n 2, 1) := by decide +kernel
theorem d_p15m46_34 : decode prog_15_method_46_code 34 = .ok (.iconst 0, 1) := by decide +kernel
theorem d_p15m46_35 : decode prog_15_method_46_code 35 = .ok (.aload_n 0, 1) := by decide +kernel
theorem d_p15m46_36 : decode prog_15_method_46_code 36 = .ok (.getfield 90, 3) := by decide +kernel
theorem d_p15m46_39 : decode prog_15_method_46_code 39 = .ok (.iload_n 3, 1) := by decide +kernel
theorem d_p15m46_40 : decode prog_15_method_46_code 40 = .ok (.iaload, 1) := by decide +kernel
theorem d_p15m46_41 : decode prog_15_method_46_code 41 = .ok (.iconst 1, 1) := by decide +kernel
theorem d_p15m46_42 : decode prog_15_method_46_code 42 = .ok (.isub, 1) := by decide +kernel
theorem d_p15m46_43 : decode prog_15_method_46_code 43 = .ok (.invokestatic 109, 3) := by decide +kernel
theorem d_p15m46_46 : decode prog_15_method_46_code 46 = .ok (.ifCond .eq 17, 3) := by decide +kernel
theorem d_p15m46_49 : decode prog_15_method_46_code 49 = .ok (.aload_n 0, 1) := by decide +kernel
theorem d_p15m46_50 : decode prog_15_method_46_code 50 = .ok (.getfield 87, 3) := by decide +kernel
theorem d_p15m46_53 : decode prog_15_method_46_code 53 = .ok (.bipush 96, 2) := by decide +kernel
theorem d_p15m46_55 : decode prog_15_method_46_code 55 = .ok (.iload_n 3, 1) := by decide +kernel
theorem d_p15m46_56 : decode prog_15_method_46_code 56 = .ok (.imul, 1) := by decide +kernel
theorem d_p15m46_57 : decode prog_15_method_46_code 57 = .ok (.iload_n 2, 1) := by decide +kernel
theorem d_p15m46_58 : decode prog_15_method_46_code 58 = .ok (.iadd, 1) := by decide +kernel
theorem d_p15m46_59 : decode prog_15_method_46_code 59 = .ok (.iaload, 1) := by decide +kernel
theorem d_p15m46_60 : decode prog_15_method_46_code 60 = .ok (.goto 5, 3) := by decide +kernel
theorem d_p15m46_63 : decode prog_15_method_46_code 63 = .ok (.bipush (-2), 2) := by decide +kernel
theorem d_p15m46_65 : decode prog_15_method_46_code 65 = .ok (.ireturn, 1) := by decide +kernel
abbrev y_Mod_audit : MethodName := ⟨"PolicyDeskModel", "audit", "(II)I"⟩
theorem ok_Mod_audit : pd_ok y_Mod_audit prog_15_method_46_code 4 (some .int) 2 := ⟨mT_1466, mT_21, by decide, by decide +kernel⟩
abbrev rm_Mod_audit : Room := { frames := 1, cells := 0, slots := 0, locals := 22 }
set_option maxHeartbeats 4000000 in
set_option maxRecDepth 100000 in
theorem c_Mod_audit (l : Launch) (G : pd_G) (h : pd_H) {y : Nat} {ad : Nat → Nat} {fv : Nat → Nat → Int32} {iv : Nat → Int32} {tl : Int64} {T : Nat → List Nat} {an : Nat} {k0 i0 : Int32} (hMO : pd_MO G h y ad fv iv tl) (hA : gm_A fv T) (hiv32 : iv 32 = nI an) (han : an ≤ 1000) : pd_M l y_Mod_audit prog_15_method_46_code 4 (some .int) rm_Mod_audit G h [.ref y, .int k0, .int i0] Value.int (fun r h1 => r = gr_lat T (min an 12) (an % 12) k0 i0 ∧ h = h1) := by
  refine pd_M.of (by decide) (Nat.le_of_ble_eq_true rfl) ?_
  intro p e s m below meth c X hmn w ls hl
  have hx := X.1
  have hb := X.2.1
  have hl : lv_has ls 4 [(0, .ref y), (1, .int k0), (2, .int i0)] := hl
  have hz_y := hMO.2.1
  have hy0 : h y = some (20, .inr (10, [.ref (ad 0), .ref (ad 1), .ref (ad 2), .int (iv 3), .int (iv 4), .int (iv 5), .ref (ad 6), .ref (ad 7), .ref (ad 8), .ref (ad 9), .ref (ad 10), .ref (ad 11), .int (iv 12), .ref (ad 13), .ref (ad 14), .ref (ad 15), .ref (ad 16), .ref (ad 17), .ref (ad 18), .ref (ad 19), .int (iv 20), .ref (ad 21), .ref (ad 22), .ref (ad 23), .ref (ad 24), .ref (ad 25), .ref (ad 26), .ref (ad 27), .ref (ad 28), .int (iv 29), .ref (ad 30), .ref (ad 31), .int (iv 32), .int (iv 33), .int (iv 34), .int (iv 35), .long tl, .int (iv 37), .int (iv 38), .int (iv 39), .int (iv 40), .ref (ad 41), .ref (ad 42), .int (iv 43)])) := hMO.1
  have ha30 : h (ad 30) = some (60, .inl (.int, 1152, .inl (fv 30))) := (hMO.2.2 30 (by decide)).1
  have ha31 : h (ad 31) = some (61, .inl (.int, 12, .inl (fv 31))) := (hMO.2.2 31 (by decide)).1
  refine lv_iload_n hx hb d_p15m46_0 rfl (lv_at hl 1 rfl) ?_
  refine lv_iconst (v := nI 0) hx hb d_p15m46_1 (by decide) ?_
  refine lv_bipush (v := nI 11) hx hb d_p15m46_2 (by decide) ?_
  refine pd_cS (As := [.int k0, .int (nI 0), .int (nI 11)]) (rest := []) X w (c_Mod_inI l G h) ok_Mod_inI mT_1278 mT_1277 ⟨by decide, by decide⟩ rfl hl.1 rfl (Nat.le_of_ble_eq_true rfl) d_p15m46_4 ⟨by decide, by decide⟩ (fun r1 h2 H locs hp3 w => ?_)
  refine W.widen (k := 0) (n := 0) (by decide) (by decide) ?_
  obtain ⟨e4, rfl⟩ := hp3
  refine pd_beq (tgt := 18) hx hb d_p15m46_7 (by decide) (fun q5 => ?_) (fun q5 => ?_)
  · -- taken: 18
    refine lv_bipush (v := -2) hx hb d_p15m46_18 (by decide) ?_
    exact pd_iret (v := (-2)) X w ⟨by simp only [gr_lat, gm_ix12 (an := an) (pd_in_n (k := 12) (by decide) (e4.symm.trans q5))], rfl⟩ (by decide) (by decide) d_p15m46_20
  · -- not taken: 10
    obtain ⟨i9, hi9, hc0, hix⟩ := pd_in_y (k := 12) (by decide) (e4.symm.trans q5)
    rw [hc0] at hl
    have hl : lv_has ls 4 [(0, .ref y), (1, .int (nI i9)), (2, .int i0)] := hl
    refine lv_iload_n hx hb d_p15m46_10 rfl (lv_at hl 1 rfl) ?_
    refine lv_aload_n hx hb d_p15m46_11 rfl (lv_at hl 0 rfl) ?_
    refine pd_get X w hy0 rfl 32 (by decide) mT_1171 rfl rfl d_p15m46_12 ?_
    refine pd_top (v' := .int (nI an)) (congrArg Value.int hiv32) ?_
    refine pd_jlt (tgt := 21) hx hb d_p15m46_15 (by decide) (by omega) (by omega) (fun q6 => ?_) (fun q6 => ?_)
    · -- taken: 21
      refine lv_aload_n hx hb d_p15m46_21 rfl (lv_at hl 0 rfl) ?_
      refine pd_get X w hy0 rfl 32 (by decide) mT_1171 rfl rfl d_p15m46_22 ?_
      refine pd_top (v' := .int (nI an)) (congrArg Value.int hiv32) ?_
      refine lv_iconst (v := nI 1) hx hb d_p15m46_25 (by decide) ?_
      refine pd_isub hx hb d_p15m46_26 (by omega) ?_
      refine lv_iload_n hx hb d_p15m46_27 rfl (lv_at hl 1 rfl) ?_
      refine pd_isub hx hb d_p15m46_28 (by omega) ?_
      refine lv_bipush (v := nI 12) hx hb d_p15m46_29 (by decide) ?_
      refine lv_irem hx hb d_p15m46_31 (by decide) ?_
      refine pd_top (v' := .int (nI (((an - 1) - i9) % 12))) (by rw [pk_rem (by omega) (by omega) (by omega)]) ?_
      have hAj := hA ((an - 1 - i9) % 12) (by omega)
      have hAl := hAj.2.1
      have hkx : pd_ix (min an 12) k0 = some i9 := by rw [hc0]; exact (pd_ix_in (nI_pos (by omega)) (nI_lt (by omega) (by omega))).trans (congrArg some (nI_clamp (by omega)))
      have hrw : (an % 12 + 11 - i9) % 12 = (an - 1 - i9) % 12 := by omega
      refine lv_istore_n (lv' := [(3, .int (nI (((an - 1) - i9) % 12))), (0, .ref y), (1, .int (nI i9)), (2, .int i0)]) hx hb d_p15m46_32 rfl hl (by decide) rfl (fun ls hl => ?_)
      refine lv_iload_n hx hb d_p15m46_33 rfl (lv_at hl 3 rfl) ?_
      refine lv_iconst (v := nI 0) hx hb d_p15m46_34 (by decide) ?_
      refine lv_aload_n hx hb d_p15m46_35 rfl (lv_at hl 1 rfl) ?_
      refine pd_get X w hy0 rfl 31 (by decide) mT_1170 rfl rfl d_p15m46_36 ?_
      refine lv_iload_n hx hb d_p15m46_39 rfl (lv_at hl 0 rfl) ?_
      refine pd_iald X w ha31 (by omega) (by omega) d_p15m46_40 ?_
      refine pd_top (v' := .int (nI ((T ((an - 1 - i9) % 12)).length))) (congrArg Value.int hAj.1) ?_
      refine lv_iconst (v := nI 1) hx hb d_p15m46_41 (by decide) ?_
      refine lv_isub hx hb d_p15m46_42 ?_
      refine pd_cS (As := [.int i0, .int (nI 0), .int (nI ((T ((an - 1 - i9) % 12)).length) - nI 1)]) (rest := []) X w (c_Mod_inI l G h) ok_Mod_inI mT_1278 mT_1277 ⟨by decide, by decide⟩ rfl hl.1 rfl (Nat.le_of_ble_eq_true rfl) d_p15m46_43 ⟨by decide, by decide⟩ (fun r7 h8 H locs hp9 w => ?_)
      refine W.widen (k := 0) (n := 0) (by decide) (by decide) ?_
      obtain ⟨e10, rfl⟩ := hp9
      refine pd_beq (tgt := 63) hx hb d_p15m46_46 (by decide) (fun q11 => ?_) (fun q11 => ?_)
      · -- taken: 63
        refine lv_bipush (v := -2) hx hb d_p15m46_63 (by decide) ?_
        exact pd_iret (v := (-2)) X w ⟨by simp only [gr_lat, hkx, hrw, pd_in_n (k := (T ((an - 1 - i9) % 12)).length) (by omega) (e10.symm.trans q11)], rfl⟩ (by decide) (by decide) d_p15m46_65
      · -- not taken: 49
        obtain ⟨j9, hj9, hc1, hjx⟩ := pd_in_y (k := (T ((an - 1 - i9) % 12)).length) (by omega) (e10.symm.trans q11)
        rw [hc1] at hl
        have hl : lv_has ls 4 [(3, .int (nI (((an - 1) - i9) % 12))), (0, .ref y), (1, .int (nI i9)), (2, .int (nI j9))] := hl
        refine lv_aload_n hx hb d_p15m46_49 rfl (lv_at hl 1 rfl) ?_
        refine pd_get X w hy0 rfl 30 (by decide) mT_1169 rfl rfl d_p15m46_50 ?_
        refine lv_bipush (v := nI 96) hx hb d_p15m46_53 (by decide) ?_
        refine lv_iload_n hx hb d_p15m46_55 rfl (lv_at hl 0 rfl) ?_
        refine pd_imul hx hb d_p15m46_56 ?_
        refine lv_iload_n hx hb d_p15m46_57 rfl (lv_at hl 3 rfl) ?_
        refine pd_iadd hx hb d_p15m46_58 ?_
        refine pd_iald X w ha30 (by omega) (by omega) d_p15m46_59 ?_
        refine pd_top (v' := .int (nI ((T ((an - 1 - i9) % 12)).getD j9 0))) (congrArg Value.int (hAj.2.2 j9 (by omega))) ?_
        refine lv_goto (tgt := 65) hx hb d_p15m46_60 (by decide) ?_
        exact pd_iret (v := (nI ((T ((an - 1 - i9) % 12)).getD j9 0))) X w ⟨by simp only [gr_lat, hkx, hrw, hjx], rfl⟩ (by decide) (by decide) d_p15m46_65
    · -- not taken: 18
      refine lv_bipush (v := -2) hx hb d_p15m46_18 (by decide) ?_
      exact pd_iret (v := (-2)) X w ⟨by simp only [gr_lat, show pd_ix (min an 12) k0 = none by rw [hc0]; exact pd_ix_ge (nI_pos (by omega)) (nI_nlt (by omega) (by omega))], rfl⟩ (by decide) (by decide) d_p15m46_20
