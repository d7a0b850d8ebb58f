/-! classes are declared -/
def gr_up (n : Nat) (R : Nat → pd_cr) (cs : List Nat) (bi : Bool) : Option Nat := if bi = false ∧ 3 < (gr_cut cs).1 then gr_find R n (gr_w cs 3) else some 0
/-- which are above it, or what is wrong -/
def gr_hd (n : Nat) (R : Nat → pd_cr) (cs : List Nat) (bi : Bool) (ff : Nat) (up fi se : Option Nat) : Int32 ⊕ Nat := match up with
  | none => .inl (-2)
  | some i => if (fi = none ∧ ff < (gr_cut cs).1) ∨ (se = none ∧ ff + 1 < (gr_cut cs).1) then .inl (-2) else if ¬ gr_find R n (gr_w cs 1) = none then .inl (-3) else if (R i).2.1 = true ∨ gr_pc R fi = true ∨ gr_pc R se = true ∨ (¬ fi = none ∧ fi = se) then .inl (-4) else .inr i
theorem gr_hd_s {n : Nat} {R : Nat → pd_cr} {cs : List Nat} {bi : Bool} {ff i : Nat} {fi se : Option Nat} : gr_hd n R cs bi ff (some i) fi se = if (fi = none ∧ ff < (gr_cut cs).1) ∨ (se = none ∧ ff + 1 < (gr_cut cs).1) then .inl (-2) else if ¬ gr_find R n (gr_w cs 1) = none then .inl (-3) else if (R i).2.1 = true ∨ gr_pc R fi = true ∨ gr_pc R se = true ∨ (¬ fi = none ∧ fi = se) then .inl (-4) else .inr i := rfl
def gr_dc (n : Nat) (R : Nat → pd_cr) (cs : List Nat) (bi : Bool) (ff : Nat) : Int32 × Nat × (Nat → pd_cr) := match gr_hd n R cs bi ff (gr_up n R cs bi) (gr_find R n (gr_w cs ff)) (gr_find R n (gr_w cs (ff + 1))) with
  | .inl a => (a, n, R)
  | .inr i => gr_cadd n R (gr_row R n (gr_w cs 1) bi (some i) (gr_find R n (gr_w cs ff)) (gr_find R n (gr_w cs (ff + 1))))
theorem d_p1m14_0 : decode prog_1_method_14_code 0 = .ok (.iload_n 2, 1) := by decide +kernel
theorem d_p1m14_1 : decode prog_1_method_14_code 1 = .ok (.ifCond .eq 7, 3) := by decide +kernel
theorem d_p1m14_4 : decode prog_1_method_14_code 4 = .ok (.iconst 3, 1) := by decide +kernel
theorem d_p1m14_5 : decode prog_1_method_14_code 5 = .ok (.goto 4, 3) := by decide +kernel
theorem d_p1m14_8 : decode prog_1_method_14_code 8 = .ok (.iconst 4, 1) := by decide +kernel
theorem d_p1m14_9 : decode prog_1_method_14_code 9 = .ok (.istore_n 3, 1) := by decide +kernel
theorem d_p1m14_10 : decode prog_1_method_14_code 10 = .ok (.iload_n 2, 1) := by decide +kernel
theorem d_p1m14_11 : decode prog_1_method_14_code 11 = .ok (.ifCond .ne 15, 3) := by decide +kernel
theorem d_p1m14_14 : decode prog_1_method_14_code 14 = .ok (.aload_n 1, 1) := by decide +kernel
theorem d_p1m14_15 : decode prog_1_method_14_code 15 = .ok (.getfield 196, 3) := by decide +kernel
theorem d_p1m14_18 : decode prog_1_method_14_code 18 = .ok (.iconst 3, 1) := by decide +kernel
theorem d_p1m14_19 : decode prog_1_method_14_code 19 = .ok (.if_icmp .le 7, 3) := by decide +kernel
theorem d_p1m14_22 : decode prog_1_method_14_code 22 = .ok (.iconst 1, 1) := by decide +kernel
theorem d_p1m14_23 : decode prog_1_method_14_code 23 = .ok (.goto 4, 3) := by decide +kernel
theorem d_p1m14_26 : decode prog_1_method_14_code 26 = .ok (.iconst 0, 1) := by decide +kernel
theorem d_p1m14_27 : decode prog_1_method_14_code 27 = .ok (.istore 4, 2) := by decide +kernel
theorem d_p1m14_29 : decode prog_1_method_14_code 29 = .ok (.iload 4, 2) := by decide +kernel
theorem d_p1m14_31 : decode prog_1_method_14_code 31 = .ok (.ifCond .eq 18, 3) := by decide +kernel
theorem d_p1m14_34 : decode prog_1_method_14_code 34 = .ok (.aload_n 0, 1) := by decide +kernel
theorem d_p1m14_35 : decode prog_1_method_14_code 35 = .ok (.getfield 19, 3) := by decide +kernel
theorem d_p1m14_38 : decode prog_1_method_14_code 38 = .ok (.aload_n 1, 1) := by decide +kernel
theorem d_p1m14_39 : decode prog_1_method_14_code 39 = .ok (.iconst 3, 1) := by decide +kernel
theorem d_p1m14_40 : decode prog_1_method_14_code 40 = .ok (.invokevirtual 73, 3) := by decide +kernel
theorem d_p1m14_43 : decode prog_1_method_14_code 43 = .ok (.invokevirtual 197, 3) := by decide +kernel
theorem d_p1m14_46 : decode prog_1_method_14_code 46 = .ok (.goto 10, 3) := by decide +kernel
theorem d_p1m14_49 : decode prog_1_method_14_code 49 = .ok (.aload_n 0, 1) := by decide +kernel
theorem d_p1m14_50 : decode prog_1_method_14_code 50 = .ok (.getfield 19, 3) := by decide +kernel
theorem d_p1m14_53 : decode prog_1_method_14_code 53 = .ok (.getfield 201, 3) := by decide +kernel
theorem d_p1m14_56 : decode prog_1_method_14_code 56 = .ok (.astore 5, 2) := by decide +kernel
theorem d_p1m14_58 : decode prog_1_method_14_code 58 = .ok (.aload_n 0, 1) := by decide +kernel
theorem d_p1m14_59 : decode prog_1_method_14_code 59 = .ok (.getfield 19, 3) := by decide +kernel
theorem d_p1m14_62 : decode prog_1_method_14_code 62 = .ok (.aload_n 1, 1) := by decide +kernel
theorem d_p1m14_63 : decode prog_1_method_14_code 63 = .ok (.iload_n 3, 1) := by decide +kernel
theorem d_p1m14_64 : decode prog_1_method_14_code 64 = .ok (.invokevirtual 73, 3) := by decide +kernel
theorem d_p1m14_67 : decode prog_1_method_14_code 67 = .ok (.invokevirtual 197, 3) := by decide +kernel
theorem d_p1m14_70 : decode prog_1_method_14_code 70 = .ok (.astore 6, 2) := by decide +kernel
theorem d_p1m14_72 : decode prog_1_method_14_code 72 = .ok (.aload_n 0, 1) := by decide +kernel
theorem d_p1m14_73 : decode prog_1_method_14_code 73 = .ok (.getfield 19, 3) := by decide +kernel
theorem d_p1m14_76 : decode prog_1_method_14_code 76 = .ok (.aload_n 1, 1) := by decide +kernel
theorem d_p1m14_77 : decode prog_1_method_14_code 77 = .ok (.iload_n 3, 1) := by decide +kernel
theorem d_p1m14_78 : decode prog_1_method_14_code 78 = .ok (.iconst 1, 1) := by decide +kernel
theorem d_p1m14_79 : decode prog_1_method_14_code 79 = .ok (.iadd, 1) := by decide +kernel
theorem d_p1m14_80 : decode prog_1_method_14_code 80 = .ok (.invokevirtual 73, 3) := by decide +kernel
theorem d_p1m14_83 : decode prog_1_method_14_code 83 = .ok (.invokevirtual 197, 3) := by decide +kernel
theorem d_p1m14_86 : decode prog_1_method_14_code 86 = .ok (.astore 7, 2) := by decide +kernel
theorem d_p1m14_88 : decode prog_1_method_14_code 88 = .ok (.aload 6, 2) := by decide +kernel
theorem d_p1m14_90 : decode prog_1_method_14_code 90 = .ok (.ifnonnull 15, 3) := by decide +kernel
theorem d_p1m14_93 : decode prog_1_method_14_code 93 = .ok (.aload_n 1, 1) := by decide +kernel
theorem d_p1m14_94 : decode prog_1_method_14_code 94 = .ok (.getfield 196, 3) := by decide +kernel
theorem d_p1m14_97 : decode prog_1_method_14_code 97 = .ok (.iload_n 3, 1) := by decide +kernel
theorem d_p1m14_98 : decode prog_1_method_14_code 98 = .ok (.if_icmp .le 7, 3) := by decide +kernel
theorem d_p1m14_101 : decode prog_1_method_14_code 101 = .ok (.iconst 1, 1) := by decide +kernel
theorem d_p1m14_102 : decode prog_1_method_14_code 102 = .ok (.goto 4, 3) := by decide +kernel
theorem d_p1m14_105 : decode prog_1_method_14_code 105 = .ok (.iconst 0, 1) := by decide +kernel
theorem d_p1m14_106 : decode prog_1_method_14_code 106 = .ok (.istore 8, 2) := by decide +kernel
theorem d_p1m14_108 : decode prog_1_method_14_code 108 = .ok (.aload 7, 2) := by decide +kernel
theorem d_p1m14_110 : decode prog_1_method_14_code 110 = .ok (.ifnonnull 17, 3) := by decide +kernel
theorem d_p1m14_113 : decode prog_1_method_14_code 113 = .ok (.aload_n 1, 1) := by decide +kernel
theorem d_p1m14_114 : decode prog_1_method_14_code 114 = .ok (.getfield 196, 3) := by decide +kernel
theorem d_p1m14_117 : decode prog_1_method_14_code 117 = .ok (.iload_n 3, 1) := by decide +kernel
theorem d_p1m14_118 : decode prog_1_method_14_code 118 = .ok (.iconst 1, 1) := by decide +kernel
theorem d_p1m14_119 : decode prog_1_method_14_code 119 = .ok (.iadd, 1) := by decide +kernel
theorem d_p1m14_120 : decode prog_1_method_14_code 120 = .ok (.if_icmp .le 7, 3) := by decide +kernel
theorem d_p1m14_123 : decode prog_1_method_14_code 123 = .ok (.iconst 1, 1) := by decide +kernel
theorem d_p1m14_124 : decode prog_1_method_14_code 124 = .ok (.goto 4, 3) := by decide +kernel
theorem d_p1m14_127 : decode prog_1_method_14_code 127 = .ok (.iconst 0, 1) := by decide +kernel
theorem d_p1m14_128 : decode prog_1_method_14_code 128 = .ok (.istore 9, 2) := by decide +kernel
theorem d_p1m14_130 : decode prog_1_method_14_code 130 = .ok (.aload 5, 2) := by decide +kernel
theorem d_p1m14_132 : decode prog_1_method_14_code 132 = .ok (.ifnull 13, 3) := by decide +kernel
theorem d_p1m14_135 : decode prog_1_method_14_code 135 = .ok (.iload 8, 2) := by decide +kernel
theorem d_p1m14_137 : decode prog_1_method_14_code 137 = .ok (.ifCond .ne 8, 3) := by decide +kernel
theorem d_p1m14_140 : decode prog_1_method_14_code 140 = .ok (.iload 9, 2) := by decide +kernel
theorem d_p1m14_142 : decode prog_1_method_14_code 142 = .ok (.ifCond .eq 6, 3) := by decide +kernel
theorem d_p1m14_145 : decode prog_1_method_14_code 145 = .ok (.bipush (-2), 2) := by decide +kernel
theorem d_p1m14_147 : decode prog_1_method_14_code 147 = .ok (.ireturn, 1) := by decide +kernel
theorem d_p1m14_148 : decode prog_1_method_14_code 148 = .ok (.aload_n 0, 1) := by decide +kernel
theorem d_p1m14_149 : decode prog_1_method_14_code 149 = .ok (.getfield 19, 3) := by decide +kernel
theorem d_p1m14_152 : decode prog_1_method_14_code 152 = .ok (.aload_n 1, 1) := by decide +kernel
theorem d_p1m14_153 : decode prog_1_method_14_code 153 = .ok (.iconst 1, 1) := by decide +kernel
theorem d_p1m14_154 : decode prog_1_method_14_code 154 = .ok (.invokevirtual 73, 3) := by decide +kernel
theorem d_p1m14_157 : decode prog_1_method_14_code 157 = .ok (.invokevirtual 197, 3) := by decide +kernel
theorem d_p1m14_160 : decode prog_1_method_14_code 160 = .ok (.ifnull 6, 3) := by decide +kernel
theorem d_p1m14_163 : decode prog_1_method_14_code 163 = .ok (.bipush (-3), 2) := by decide +kernel
theorem d_p1m14_165 : decode prog_1_method_14_code 165 = .ok (.ireturn, 1) := by decide +kernel
theorem d_p1m14_166 : decode prog_1_method_14_code 166 = .ok (.aload 6, 2) := by decide +kernel
theorem d_p1m14_168 : decode prog_1_method_14_code 168 = .ok (.ifnull 14, 3) := by decide +kernel
theorem d_p1m14_171 : decode prog_1_method_14_code 171 = .ok (.aload 6, 2) := by decide +kernel
theorem d_p1m14_173 : decode prog_1_method_14_code 173 = .ok (.aload 7, 2) := by decide +kernel
theorem d_p1m14_175 : decode prog_1_method_14_code 175 = .ok (.if_acmp .ne 7, 3) := by decide +kernel
theorem d_p1m14_178 : decode prog_1_method_14_code 178 = .ok (.iconst 1, 1) := by decide +kernel
theorem d_p1m14_179 : decode prog_1_method_14_code 179 = .ok (.goto 4, 3) := by decide +kernel
theorem d_p1m14_182 : decode prog_1_method_14_code 182 = .ok (.iconst 0, 1) := by decide +kernel
theorem d_p1m14_183 : decode prog_1_method_14_code 183 = .ok (.istore 10, 2) := by decide +kernel
theorem d_p1m14_185 : decode prog_1_method_14_code 185 = .ok (.aload 5, 2) := by decide +kernel
theorem d_p1m14_187 : decode prog_1_method_14_code 187 = .ok (.getfield 131, 3) := by decide +kernel
theorem d_p1m14_190 : decode prog_1_method_14_code 190 = .ok (.ifCond .ne 24, 3) := by decide +kernel
theorem d_p1m14_193 : decode prog_1_method_14_code 193 = .ok (.aload 6, 2) := by decide +kernel
theorem d_p1m14_195 : decode prog_1_method_14_code 195 = .ok (.invokestatic 204, 3) := by decide +kernel
theorem d_p1m14_198 : decode prog_1_method_14_code 198 = .ok (.ifCond .ne 16, 3) := by decide +kernel
theorem d_p1m14_201 : decode prog_1_method_14_code 201 = .ok (.aload 7, 2) := by decide +kernel
theorem d_p1m14_203 : decode prog_1_method_14_code 203 = .ok (.invokestatic 204, 3) := by decide +kernel
theorem d_p1m14_206 : decode prog_1_method_14_code 206 = .ok (.ifCond .ne 8, 3) := by decide +kernel
theorem d_p1m14_209 : decode prog_1_method_14_code 209 = .ok (.iload 10, 2) := by decide +kernel
theorem d_p1m14_211 : decode prog_1_method_14_code 211 = .ok (.ifCond .eq 6, 3) := by decide +kernel
theorem d_p1m14_214 : decode prog_1_method_14_code 214 = .ok (.bipush (-4), 2) := by decide +kernel
theorem d_p1m14_216 : decode prog_1_method_14_code 216 = .ok (.ireturn, 1) := by decide +kernel
theorem d_p1m14_217 : decode prog_1_method_14_code 217 = .ok (.aload_n 0, 1) := by decide +kernel
theorem d_p1m14_218 : decode prog_1_method_14_code 218 = .ok (.getfield 19, 3) := by decide +kernel
theorem d_p1m14_221 : decode prog_1_method_14_code 221 = .ok (.aload_n 1, 1) := by decide +kernel
theorem d_p1m14_222 : decode prog_1_method_14_code 222 = .ok (.iconst 1, 1) := by decide +kernel
theorem d_p1m14_223 : decode prog_1_method_14_code 223 = .ok (.invokevirtual 73, 3) := by decide +kernel
theorem d_p1m14_226 : decode prog_1_method_14_code 226 = .ok (.iload_n 2, 1) := by decide +kernel
theorem d_p1m14_227 : decode prog_1_method_14_code 227 = .ok (.aload 5, 2) := by decide +kernel
theorem d_p1m14_229 : decode prog_1_method_14_code 229 = .ok (.aload 6, 2) := by decide +kernel
theorem d_p1m14_231 : decode prog_1_method_14_code 231 = .ok (.aload 7, 2) := by decide +kernel
theorem d_p1m14_233 : decode prog_1_method_14_code 233 = .ok (.invokevirtual 207, 3) := by decide +kernel
theorem d_p1m14_236 : decode prog_1_method_14_code 236 = .ok (.ireturn, 1) := by decide +kernel
abbrev y_PolicyDesk_declareClass : MethodName := ⟨"PolicyDesk", "declareClass", "(LPolicyDesk$Line;Z)I"⟩
theorem ok_PolicyDesk_declareClass : pd_ok y_PolicyDesk_declareClass prog_1_method_14_code 11 (some .int) 2 := ⟨mT_771, mT_1, by decide, by decide +kernel⟩
abbrev rm_PolicyDesk_declareClass : Room := { frames := 12, cells := 40, slots := 752, locals := 288 }
set_option maxHeartbeats 4000000 in
set_option maxRecDepth 100000 in
theorem c_PolicyDesk_declareClass (l : Launch) (G : pd_G) (h : pd_H) {x : Nat} {A B C : Nat → Nat} {t0 : List Nat} {n : Nat} {R : Nat → pd_cr} {k : Nat} {M : Nat → pd_mr} {u : Nat} {U : Nat → pd_rr} {T : Nat → List Nat} {kp nx : Nat} {sp : Int64} {an gn sn dn : Nat} {y : Nat} {cs : List Nat} {bi : Bool} (hD : pd_DX G h x A B C t0 n R k M u U T kp nx sp an gn sn dn) (hL : pd_Ln h y cs) : pd_M l y_PolicyDesk_declareClass prog_1_method_14_code 11 (some .int) rm_PolicyDesk_declareClass G h [.ref x, .ref y, .int (pd_b bi)] Value.int (fun r h1 => r = (gr_dc n R cs bi (if bi = true then 3 else 4)).1 ∧ pd_kx [6, 7, 8, 9, 10] h h1 ∧ ∃ A2, pd_DX G h1 x A2 B C t0 ((gr_dc n R cs bi (if bi = true then 3 else 4)).2.1) ((gr_dc n R cs bi (if bi = true then 3 else 4)).2.2) k M u U T kp nx sp an gn sn dn) := by
  refine pd_M.of (by decide) (Nat.le_of_ble_eq_true rfl) ?_
  intro p e s m below meth c X hmn w ls hl
  have hx := X.1
  have hb := X.2.1
  have hl : lv_has ls 11 [(0, .ref x), (1, .ref y), (2, .int (pd_b bi))] := hl
  obtain ⟨lb, cl, me, ru, bk, hx0, hz_x, hsb, hC, hM, hU, hA, ht60⟩ := id hD
  have hR := hC.rows
  have hMR := hM.mrows
  have hRR := hU.rrows
  have hcw := hR.2.2
  have hAi := hR.2.1
  have hn14 := hcw.1
  have ht21 : (2 : Nat) ≠ 1 := by decide
  have ht10 : (1 : Nat) ≠ 0 := by decide
  have ht20 : (2 : Nat) ≠ 0 := by decide
  rcases Bool.eq_false_or_eq_true bi with q0 | q0
  · -- True
    subst q0
    have hl : lv_has ls 11 [(0, .ref x), (1, .ref y), (2, .int (nI 1))] := hl
    refine lv_iload_n hx hb d_p1m14_0 rfl (lv_at hl 2 rfl) ?_
    refine pd_zeq (tgt := 8) hx hb d_p1m14_1 (by decide) (by decide) (fun q => absurd q (by decide)) (fun _ => ?_)
    refine lv_iconst (v := nI 3) hx hb d_p1m14_4 (by decide) ?_
    refine lv_goto (tgt := 9) hx hb d_p1m14_5 (by decide) ?_
    refine lv_istore_n (lv' := [(3, .int (nI 3)), (0, .ref x), (1, .ref y), (2, .int (nI 1))]) hx hb d_p1m14_9 rfl hl (by decide) rfl (fun ls hl => ?_)
    refine lv_iload_n hx hb d_p1m14_10 rfl (lv_at hl 3 rfl) ?_
    refine pd_zne (tgt := 26) hx hb d_p1m14_11 (by decide) (by decide) (fun _ => ?_) (fun q => absurd q (by decide))
    refine lv_iconst (v := nI 0) hx hb d_p1m14_26 (by decide) ?_
    refine lv_istore (lv' := [(4, .int (nI 0)), (3, .int (nI 3)), (0, .ref x), (1, .ref y), (2, .int (nI 1))]) hx hb d_p1m14_27 hl (by decide) rfl (fun ls hl => ?_)
    refine lv_iload hx hb d_p1m14_29 (lv_at hl 0 rfl) ?_
    refine pd_zeq (tgt := 49) hx hb d_p1m14_31 (by decide) (by decide) (fun _ => ?_) (fun q => absurd q (by decide))
    refine lv_aload_n hx hb d_p1m14_49 rfl (lv_at hl 2 rfl) ?_
    refine pd_get X w hx0 rfl 1 (by decide) mT_368 rfl rfl d_p1m14_50 ?_
    obtain ⟨ar4, g5, f6, f7, g8, hz9, hz10, z11, f12⟩ := id hC
    refine pd_get X w f6 rfl 0 (by decide) mT_295 rfl rfl d_p1m14_53 ?_
    refine lv_astore (lv' := [(5, .ref (A 0)), (4, .int (nI 0)), (3, .int (nI 3)), (0, .ref x), (1, .ref y), (2, .int (nI 1))]) hx hb d_p1m14_56 hl (by decide) rfl (fun ls hl => ?_)
    refine lv_aload_n hx hb d_p1m14_58 rfl (lv_at hl 3 rfl) ?_
    refine pd_get X w hx0 rfl 1 (by decide) mT_368 rfl rfl d_p1m14_59 ?_
    refine lv_aload_n hx hb d_p1m14_62 rfl (lv_at hl 4 rfl) ?_
    refine lv_iload_n hx hb d_p1m14_63 rfl (lv_at hl 2 rfl) ?_
    obtain ⟨a16, st17, fA18, f19, f20, nu21, f22⟩ := id hL
    have hc23 := (gr_cut_ok cs).1
    obtain ⟨v24, g25, f26, f27, gf28, gc29, gl30⟩ := id f22
    refine pd_cV (a := y) (As := [.int (nI 3)]) (rest := [.ref cl]) X w f19 rfl (c_Line_word l G h (by assumption) (by omega)) ok_Line_word ⟨mT_574, mT_575⟩ mT_573 ⟨by decide, by decide⟩ rfl hl.1 rfl (Nat.le_of_ble_eq_true rfl) d_p1m14_64 ⟨by decide, by decide⟩ (fun r13 h14 H locs hp15 w => ?_)
    refine W.widen (k := 2) (n := 64) (by decide) (by decide) ?_
    obtain ⟨k31, ds32, e33, f34⟩ := hp15
    have f42 := k31 _ _ hx0 List.not_mem_nil
    have f43 := k31 _ _ f6 List.not_mem_nil
    have f44 := k31 _ _ f19 List.not_mem_nil
    have f45 := k31 _ _ f26 List.not_mem_nil
    have f46 := k31 _ _ f27 List.not_mem_nil
    have f47 := hsb.kx k31 List.not_mem_nil List.not_mem_nil
    have f48 := hC.kx k31 List.not_mem_nil List.not_mem_nil List.not_mem_nil
    have f49 := hM.kx k31 List.not_mem_nil List.not_mem_nil List.not_mem_nil
    have f50 := hU.kx k31 List.not_mem_nil List.not_mem_nil List.not_mem_nil
    have f51 := hA.kx k31 List.not_mem_nil List.not_mem_nil List.not_mem_nil List.not_mem_nil List.not_mem_nil
    have f52 := hR.kx k31 List.not_mem_nil
    have f53 := hMR.kx k31 List.not_mem_nil
    have f54 := hRR.kx k31 List.not_mem_nil
    have f55 := hL.kx k31 List.not_mem_nil
    have f56 := f22.kx k31 List.not_mem_nil
    obtain ⟨v35, g36, f37, f38, gf39, gc40, gl41⟩ := id f34
    subst e33
    refine pd_cV (a := cl) (As := [.ref r13]) (rest := []) X w f43 rfl (c_Classes_find l G h14 (by assumption) (by assumption)) ok_Classes_find ⟨mT_773, mT_774⟩ mT_772 ⟨by decide, by decide⟩ rfl hl.1 rfl (Nat.le_of_ble_eq_true rfl) d_p1m14_67 ⟨by decide, by decide⟩ (fun r57 h58 H locs hp59 w => ?_)
    refine W.widen (k := 2) (n := 64) (by decide) (by decide) ?_
    obtain ⟨e60, rfl⟩ := hp59
    refine pd_ostore (lv' := [(6, va_rf r57), (5, .ref (A 0)), (4, .int (nI 0)), (3, .int (nI 3)), (0, .ref x), (1, .ref y), (2, .int (nI 1))]) hx hb d_p1m14_70 hl (by decide) rfl (fun ls hl => ?_)
    refine lv_aload_n hx hb d_p1m14_72 rfl (lv_at hl 4 rfl) ?_
    refine pd_get X w f42 rfl 1 (by decide) mT_368 rfl rfl d_p1m14_73 ?_
    refine lv_aload_n hx hb d_p1m14_76 rfl (lv_at hl 5 rfl) ?_
    refine lv_iload_n hx hb d_p1m14_77 rfl (lv_at hl 3 rfl) ?_
    refine lv_iconst (v := nI 1) hx hb d_p1m14_78 (by decide) ?_
    refine pd_iadd hx hb d_p1m14_79 ?_
    refine pd_cV (a := y) (As := [.int (nI 4)]) (rest := [.ref cl]) X w f44 rfl (c_Line_word l G h14 (by assumption) (by omega)) ok_Line_word ⟨mT_574, mT_575⟩ mT_573 ⟨by decide, by decide⟩ rfl hl.1 rfl (Nat.le_of_ble_eq_true rfl) d_p1m14_80 ⟨by decide, by decide⟩ (fun r61 h62 H locs hp63 w => ?_)
    refine W.widen (k := 4) (n := 128) (by decide) (by decide) ?_
    obtain ⟨k64, ds65, e66, f67⟩ := hp63
    have f75 := k64 _ _ f42 List.not_mem_nil
    have f76 := k64 _ _ f43 List.not_mem_nil
    have f77 := k64 _ _ f44 List.not_mem_nil
    have f78 := k64 _ _ f45 List.not_mem_nil
    have f79 := k64 _ _ f37 List.not_mem_nil
    have f80 := k64 _ _ f46 List.not_mem_nil
    have f81 := k64 _ _ f38 List.not_mem_nil
    have f82 := f47.kx k64 List.not_mem_nil List.not_mem_nil
    have f83 := f48.kx k64 List.not_mem_nil List.not_mem_nil List.not_mem_nil
    have f84 := f49.kx k64 List.not_mem_nil List.not_mem_nil List.not_mem_nil
    have f85 := f50.kx k64 List.not_mem_nil List.not_mem_nil List.not_mem_nil
    have f86 := f51.kx k64 List.not_mem_nil List.not_mem_nil List.not_mem_nil List.not_mem_nil List.not_mem_nil
    have f87 := f52.kx k64 List.not_mem_nil
    have f88 := f53.kx k64 List.not_mem_nil
    have f89 := f54.kx k64 List.not_mem_nil
    have f90 := f55.kx k64 List.not_mem_nil
    have f91 := f56.kx k64 List.not_mem_nil
    have f92 := f34.kx k64 List.not_mem_nil
    obtain ⟨v68, g69, f70, f71, gf72, gc73, gl74⟩ := id f67
    subst e66
    refine pd_cV (a := cl) (As := [.ref r61]) (rest := []) X w f76 rfl (c_Classes_find l G h62 (by assumption) (by assumption)) ok_Classes_find ⟨mT_773, mT_774⟩ mT_772 ⟨by decide, by decide⟩ rfl hl.1 rfl (Nat.le_of_ble_eq_true rfl) d_p1m14_83 ⟨by decide, by decide⟩ (fun r93 h94 H locs hp95 w => ?_)
    refine W.widen (k := 4) (n := 128) (by decide) (by decide) ?_
    obtain ⟨e96, rfl⟩ := hp95
    refine pd_ostore (lv' := [(7, va_rf r93), (6, va_rf r57), (5, .ref (A 0)), (4, .int (nI 0)), (3, .int (nI 3)), (0, .ref x), (1, .ref y), (2, .int (nI 1))]) hx hb d_p1m14_86 hl (by decide) (by simp [pd_cat]) (fun ls hl => ?_)
    refine pd_oload hx hb d_p1m14_88 (lv_at hl 1 rfl) ?_
    rcases pd_om e60 with ⟨q97, q100⟩ | ⟨i99, q97, q100⟩
    · -- none
      refine pd_top (v' := .null) (by rw [q100]; rfl) ?_
      rw [q100] at hl
      have hl : lv_has ls 11 [(7, va_rf r93), (6, .null), (5, .ref (A 0)), (4, .int (nI 0)), (3, .int (nI 3)), (0, .ref x), (1, .ref y), (2, .int (nI 1))] := hl
      refine lv_ifnonnullN hx hb d_p1m14_90 ?_
      refine lv_aload_n hx hb d_p1m14_93 rfl (lv_at hl 6 rfl) ?_
      refine pd_get X w f77 rfl 1 (by decide) mT_544 rfl rfl d_p1m14_94 ?_
      refine lv_iload_n hx hb d_p1m14_97 rfl (lv_at hl 4 rfl) ?_
      refine pd_jle (tgt := 105) hx hb d_p1m14_98 (by decide) (by omega) (by omega) (fun q102 => ?_) (fun q102 => ?_)
      · -- taken: 105
        refine lv_iconst (v := nI 0) hx hb d_p1m14_105 (by decide) ?_
        refine lv_istore (lv' := [(8, .int (nI 0)), (7, va_rf r93), (6, .null), (5, .ref (A 0)), (4, .int (nI 0)), (3, .int (nI 3)), (0, .ref x), (1, .ref y), (2, .int (nI 1))]) hx hb d_p1m14_106 hl (by decide) (by simp [pd_cat]) (fun ls hl => ?_)
        refine pd_oload hx hb d_p1m14_108 (lv_at hl 1 rfl) ?_
        rcases pd_om e96 with ⟨q103, q106⟩ | ⟨i105, q103, q106⟩
        · -- none
          refine pd_top (v' := .null) (by rw [q106]; rfl) ?_
          rw [q106] at hl
          have hl : lv_has ls 11 [(8, .int (nI 0)), (7, .null), (6, .null), (5, .ref (A 0)), (4, .int (nI 0)), (3, .int (nI 3)), (0, .ref x), (1, .ref y), (2, .int (nI 1))] := hl
          refine lv_ifnonnullN hx hb d_p1m14_110 ?_
          refine lv_aload_n hx hb d_p1m14_113 rfl (lv_at hl 7 rfl) ?_
          refine pd_get X w f77 rfl 1 (by decide) mT_544 rfl rfl d_p1m14_114 ?_
          refine lv_iload_n hx hb d_p1m14_117 rfl (lv_at hl 5 rfl) ?_
          refine lv_iconst (v := nI 1) hx hb d_p1m14_118 (by decide) ?_
          refine pd_iadd hx hb d_p1m14_119 ?_
          refine pd_jle (tgt := 127) hx hb d_p1m14_120 (by decide) (by omega) (by omega) (fun q108 => ?_) (fun q108 => ?_)
          · -- taken: 127
            refine lv_iconst (v := nI 0) hx hb d_p1m14_127 (by decide) ?_
            refine lv_istore (lv' := [(9, .int (nI 0)), (8, .int (nI 0)), (7, .null), (6, .null), (5, .ref (A 0)), (4, .int (nI 0)), (3, .int (nI 3)), (0, .ref x), (1, .ref y), (2, .int (nI 1))]) hx hb d_p1m14_128 hl (by decide) rfl (fun ls hl => ?_)
            refine lv_aload hx hb d_p1m14_130 (lv_at hl 4 rfl) ?_
            refine lv_ifnull hx hb d_p1m14_132 ?_
            refine lv_iload hx hb d_p1m14_135 (lv_at hl 1 rfl) ?_
            refine pd_zne (tgt := 145) hx hb d_p1m14_137 (by decide) (by decide) (fun q => absurd q (by decide)) (fun _ => ?_)
            refine lv_iload hx hb d_p1m14_140 (lv_at hl 0 rfl) ?_
            refine pd_zeq (tgt := 148) hx hb d_p1m14_142 (by decide) (by decide) (fun _ => ?_) (fun q => absurd q (by decide))
            refine lv_aload_n hx hb d_p1m14_148 rfl (lv_at hl 7 rfl) ?_
            refine pd_get X w f75 rfl 1 (by decide) mT_368 rfl rfl d_p1m14_149 ?_
            refine lv_aload_n hx hb d_p1m14_152 rfl (lv_at hl 8 rfl) ?_
            refine lv_iconst (v := nI 1) hx hb d_p1m14_153 (by decide) ?_
            refine pd_cV (a := y) (As := [.int (nI 1)]) (rest := [.ref cl]) X w f77 rfl (c_Line_word l G h62 (by assumption) (by omega)) ok_Line_word ⟨mT_574, mT_575⟩ mT_573 ⟨by decide, by decide⟩ rfl hl.1 rfl (Nat.le_of_ble_eq_true rfl) d_p1m14_154 ⟨by decide, by decide⟩ (fun r112 h113 H locs hp114 w => ?_)
            refine W.widen (k := 6) (n := 192) (by decide) (by decide) ?_
            obtain ⟨k115, ds116, e117, f118⟩ := hp114
            have f126 := k115 _ _ f75 List.not_mem_nil
            have f127 := k115 _ _ f76 List.not_mem_nil
            have f128 := k115 _ _ f77 List.not_mem_nil
            have f129 := k115 _ _ f78 List.not_mem_nil
            have f130 := k115 _ _ f79 List.not_mem_nil
            have f131 := k115 _ _ f70 List.not_mem_nil
            have f132 := k115 _ _ f80 List.not_mem_nil
            have f133 := k115 _ _ f81 List.not_mem_nil
            have f134 := k115 _ _ f71 List.not_mem_nil
            have f135 := f82.kx k115 List.not_mem_nil List.not_mem_nil
            have f136 := f83.kx k115 List.not_mem_nil List.not_mem_nil List.not_mem_nil
            have f137 := f84.kx k115 List.not_mem_nil List.not_mem_nil List.not_mem_nil
            have f138 := f85.kx k115 List.not_mem_nil List.not_mem_nil List.not_mem_nil
            have f139 := f86.kx k115 List.not_mem_nil List.not_mem_nil List.not_mem_nil List.not_mem_nil List.not_mem_nil
            have f140 := f87.kx k115 List.not_mem_nil
            have f141 := f88.kx k115 List.not_mem_nil
            have f142 := f89.kx k115 List.not_mem_nil
            have f143 := f90.kx k115 List.not_mem_nil
            have f144 := f91.kx k115 List.not_mem_nil
            have f145 := f92.kx k115 List.not_mem_nil
            have f146 := f67.kx k115 List.not_mem_nil
            obtain ⟨v119, g120, f121, f122, gf123, gc124, gl125⟩ := id f118
            subst e117
            refine pd_cV (a := cl) (As := [.ref r112]) (rest := []) X w f127 rfl (c_Classes_find l G h113 (by assumption) (by assumption)) ok_Classes_find ⟨mT_773, mT_774⟩ mT_772 ⟨by decide, by decide⟩ rfl hl.1 rfl (Nat.le_of_ble_eq_true rfl) d_p1m14_157 ⟨by decide, by decide⟩ (fun r147 h148 H locs hp149 w => ?_)
            refine W.widen (k := 6) (n := 192) (by decide) (by decide) ?_
            obtain ⟨e150, rfl⟩ := hp149
            rcases pd_om e150 with ⟨q151, q154⟩ | ⟨i153, q151, q154⟩
            · -- none
              refine pd_top (v' := .null) (by rw [q154]; rfl) ?_
              have hl : lv_has ls 11 [(9, .int (nI 0)), (8, .int (nI 0)), (7, .null), (6, .null), (5, .ref (A 0)), (4, .int (nI 0)), (3, .int (nI 3)), (0, .ref x), (1, .ref y), (2, .int (nI 1))] := hl
              refine lv_ifnullN (tgt := 166) hx hb d_p1m14_160 (by decide) ?_
              refine lv_aloadN hx hb d_p1m14_166 (lv_at hl 3 rfl) ?_
              refine lv_ifnullN (tgt := 182) hx hb d_p1m14_168 (by decide) ?_
              refine lv_iconst (v := nI 0) hx hb d_p1m14_182 (by decide) ?_
              refine lv_istore (lv' := [(10, .int (nI 0)), (9, .int (nI 0)), (8, .int (nI 0)), (7, .null), (6, .null), (5, .ref (A 0)), (4, .int (nI 0)), (3, .int (nI 3)), (0, .ref x), (1, .ref y), (2, .int (nI 1))]) hx hb d_p1m14_183 hl (by decide) rfl (fun ls hl => ?_)
              refine lv_aload hx hb d_p1m14_185 (lv_at hl 5 rfl) ?_
              obtain ⟨nm157, fx158, f159, f160, f161⟩ := f140.1 0 (by omega)
              obtain ⟨v162, g163, f164, f165, gf166, gc167, gl168⟩ := id f160
              obtain ⟨v169, cap170, g171, f172, z173, z174, z175, z176, z177⟩ := id f161
              refine pd_get X w f159 rfl 2 (by decide) mT_260 rfl rfl d_p1m14_187 ?_
              refine pd_bne (tgt := 214) hx hb d_p1m14_190 (by decide) (fun q178 => ?_) (fun q178 => ?_)
              · -- taken: 214
                refine lv_bipush (v := -4) hx hb d_p1m14_214 (by decide) ?_
                have hup : gr_up n R cs true = some 0 := if_neg (by simp)
                have hfi : gr_find R n (gr_w cs 3) = none := q97
                have hse : gr_find R n (gr_w cs 4) = none := q103
                have hhd : gr_hd n R cs true 3 (some 0) (none) (none) = .inl (-4) := by rw [gr_hd_s, if_neg (by simp; omega), if_neg (by rw [q151]; simp), if_pos (Or.inl q178)]
                have hg : gr_dc n R cs true (if true = true then 3 else 4) = ((-4), n, R) := by show gr_dc n R cs true 3 = _; unfold gr_dc; rw [hup, hfi, hse, hhd]
                exact pd_iret (v := (-4)) X w ⟨by rw [hg], pd_kx.mono (us := [6, 7, 8, 9, 10]) (pd_kx.tr (pd_kx.tr (k31) (k64)) (k115)) (by simp), A, (by rw [hg]; exact ⟨lb, cl, me, ru, bk, f126, hz_x, f135, f136, f137, f138, f139, ht60⟩)⟩ (by decide) (by decide) d_p1m14_216
              · -- not taken: 193
                refine lv_aloadN hx hb d_p1m14_193 (lv_at hl 4 rfl) ?_
                refine pd_cS (As := [.null]) (rest := []) X w (c_PolicyDesk_isPlainClass l G h113 (A := A) (n := n) (R := R) (o := none) (by assumption) (fun t ht => by cases ht)) ok_PolicyDesk_isPlainClass mT_778 mT_777 ⟨by decide, by decide⟩ rfl hl.1 rfl (Nat.le_of_ble_eq_true rfl) d_p1m14_195 ⟨by decide, by decide⟩ (fun r179 h180 H locs hp181 w => ?_)
                refine W.widen (k := 6) (n := 192) (by decide) (by decide) ?_
                obtain ⟨e182, rfl⟩ := hp181
                refine pd_bne (tgt := 214) hx hb d_p1m14_198 (by decide) (fun q183 => ?_) (fun q183 => ?_)
                · -- taken: 214
                  refine lv_bipush (v := -4) hx hb d_p1m14_214 (by decide) ?_
                  have hup : gr_up n R cs true = some 0 := if_neg (by simp)
                  have hfi : gr_find R n (gr_w cs 3) = none := q97
                  have hse : gr_find R n (gr_w cs 4) = none := q103
                  have hhd : gr_hd n R cs true 3 (some 0) (none) (none) = .inl (-4) := by rw [gr_hd_s, if_neg (by simp; omega), if_neg (by rw [q151]; simp), if_pos (Or.inr (Or.inl (e182.symm.trans q183)))]
                  have hg : gr_dc n R cs true (if true = true then 3 else 4) = ((-4), n, R) := by show gr_dc n R cs true 3 = _; unfold gr_dc; rw [hup, hfi, hse, hhd]
                  exact pd_iret (v := (-4)) X w ⟨by rw [hg], pd_kx.mono (us := [6, 7, 8, 9, 10]) (pd_kx.tr (pd_kx.tr (k31) (k64)) (k115)) (by simp), A, (by rw [hg]; exact ⟨lb, cl, me, ru, bk, f126, hz_x, f135, f136, f137, f138, f139, ht60⟩)⟩ (by decide) (by decide) d_p1m14_216
                · -- not taken: 201
                  refine lv_aloadN hx hb d_p1m14_201 (lv_at hl 3 rfl) ?_
                  refine pd_cS (As := [.null]) (rest := []) X w (c_PolicyDesk_isPlainClass l G h113 (A := A) (n := n) (R := R) (o := none) (by assumption) (fun t ht => by cases ht)) ok_PolicyDesk_isPlainClass mT_778 mT_777 ⟨by decide, by decide⟩ rfl hl.1 rfl (Nat.le_of_ble_eq_true rfl) d_p1m14_203 ⟨by decide, by decide⟩ (fun r184 h185 H locs hp186 w => ?_)
                  refine W.widen (k := 6) (n := 192) (by decide) (by decide) ?_
                  obtain ⟨e187, rfl⟩ := hp186
                  refine pd_bne (tgt := 214) hx hb d_p1m14_206 (by decide) (fun q188 => ?_) (fun q188 => ?_)
                  · -- taken: 214
                    refine lv_bipush (v := -4) hx hb d_p1m14_214 (by decide) ?_
                    have hup : gr_up n R cs true = some 0 := if_neg (by simp)
                    have hfi : gr_find R n (gr_w cs 3) = none := q97
                    have hse : gr_find R n (gr_w cs 4) = none := q103
                    have hhd : gr_hd n R cs true 3 (some 0) (none) (none) = .inl (-4) := by rw [gr_hd_s, if_neg (by simp; omega), if_neg (by rw [q151]; simp), if_pos (Or.inr (Or.inr (Or.inl (e187.symm.trans q188))))]
                    have hg : gr_dc n R cs true (if true = true then 3 else 4) = ((-4), n, R) := by show gr_dc n R cs true 3 = _; unfold gr_dc; rw [hup, hfi, hse, hhd]
                    exact pd_iret (v := (-4)) X w ⟨by rw [hg], pd_kx.mono (us := [6, 7, 8, 9, 10]) (pd_kx.tr (pd_kx.tr (k31) (k64)) (k115)) (by simp), A, (by rw [hg]; exact ⟨lb, cl, me, ru, bk, f126, hz_x, f135, f136, f137, f138, f139, ht60⟩)⟩ (by decide) (by decide) d_p1m14_216
                  · -- not taken: 209
                    refine lv_iload hx hb d_p1m14_209 (lv_at hl 0 rfl) ?_
                    refine pd_zeq (tgt := 217) hx hb d_p1m14_211 (by decide) (by decide) (fun _ => ?_) (fun q => absurd q (by decide))
                    refine lv_aload_n hx hb d_p1m14_217 rfl (lv_at hl 8 rfl) ?_
                    refine pd_get X w f126 rfl 1 (by decide) mT_368 rfl rfl d_p1m14_218 ?_
                    refine lv_aload_n hx hb d_p1m14_221 rfl (lv_at hl 9 rfl) ?_
                    refine lv_iconst (v := nI 1) hx hb d_p1m14_222 (by decide) ?_
                    refine pd_cV (a := y) (As := [.int (nI 1)]) (rest := [.ref cl]) X w f128 rfl (c_Line_word l G h113 (by assumption) (by omega)) ok_Line_word ⟨mT_574, mT_575⟩ mT_573 ⟨by decide, by decide⟩ rfl hl.1 rfl (Nat.le_of_ble_eq_true rfl) d_p1m14_223 ⟨by decide, by decide⟩ (fun r190 h191 H locs hp192 w => ?_)
                    refine W.widen (k := 8) (n := 256) (by decide) (by decide) ?_
                    obtain ⟨k193, ds194, e195, f196⟩ := hp192
                    have f204 := k193 _ _ f126 List.not_mem_nil
                    have f205 := k193 _ _ f127 List.not_mem_nil
                    have f206 := k193 _ _ f128 List.not_mem_nil
                    have f207 := k193 _ _ f129 List.not_mem_nil
                    have f208 := k193 _ _ f130 List.not_mem_nil
                    have f209 := k193 _ _ f131 List.not_mem_nil
                    have f210 := k193 _ _ f121 List.not_mem_nil
                    have f211 := k193 _ _ f159 List.not_mem_nil
                    have f212 := k193 _ _ f164 List.not_mem_nil
                    have f213 := k193 _ _ f172 List.not_mem_nil
                    have f214 := k193 _ _ f132 List.not_mem_nil
                    have f215 := k193 _ _ f133 List.not_mem_nil
                    have f216 := k193 _ _ f134 List.not_mem_nil
                    have f217 := k193 _ _ f122 List.not_mem_nil
                    have f218 := k193 _ _ f165 List.not_mem_nil
                    have f219 := f135.kx k193 List.not_mem_nil List.not_mem_nil
                    have f220 := f136.kx k193 List.not_mem_nil List.not_mem_nil List.not_mem_nil
                    have f221 := f137.kx k193 List.not_mem_nil List.not_mem_nil List.not_mem_nil
                    have f222 := f138.kx k193 List.not_mem_nil List.not_mem_nil List.not_mem_nil
                    have f223 := f139.kx k193 List.not_mem_nil List.not_mem_nil List.not_mem_nil List.not_mem_nil List.not_mem_nil
                    have f224 := f140.kx k193 List.not_mem_nil
                    have f225 := f141.kx k193 List.not_mem_nil
                    have f226 := f142.kx k193 List.not_mem_nil
                    have f227 := f143.kx k193 List.not_mem_nil
                    have f228 := f144.kx k193 List.not_mem_nil
                    have f229 := f145.kx k193 List.not_mem_nil
                    have f230 := f146.kx k193 List.not_mem_nil
                    have f231 := f118.kx k193 List.not_mem_nil
                    have f232 := f160.kx k193 List.not_mem_nil
                    have f233 := f161.kx k193 List.not_mem_nil List.not_mem_nil List.not_mem_nil
                    obtain ⟨v197, g198, f199, f200, gf201, gc202, gl203⟩ := id f196
                    subst e195
                    refine lv_iload_n hx hb d_p1m14_226 rfl (lv_at hl 10 rfl) ?_
                    refine lv_aload hx hb d_p1m14_227 (lv_at hl 5 rfl) ?_
                    refine lv_aloadN hx hb d_p1m14_229 (lv_at hl 4 rfl) ?_
                    refine lv_aloadN hx hb d_p1m14_231 (lv_at hl 3 rfl) ?_
                    refine pd_cV (a := cl) (As := [.ref r190, .int (nI 1), .ref (A 0), .null, .null]) (rest := []) X w f205 rfl (c_Classes_add l G h191 (A := A) (n := n) (R := R) (bi := true) (ab := some 0) (fi := none) (se := none) (by assumption) (by assumption) (fun t ht => by cases ht; omega) (fun t ht => by cases ht) (fun t ht => by cases ht)) ok_Classes_add ⟨mT_781, mT_782⟩ mT_780 ⟨by decide, by decide⟩ rfl hl.1 rfl (Nat.le_of_ble_eq_true rfl) d_p1m14_233 ⟨by decide, by decide⟩ (fun r234 h235 H locs hp236 w => ?_)
                    refine W.widen (k := 38) (n := 688) (by decide) (by decide) ?_
                    obtain ⟨k237, e238, A239, ag240, f241⟩ := hp236
                    have f242 := k237 _ _ f204 (show (5 : Nat) ∉ [6, 7, 8, 9, 10] by decide)
                    have f243 := k237 _ _ f206 (show (0 : Nat) ∉ [6, 7, 8, 9, 10] by decide)
                    have f244 := k237 _ _ f207 (show (0 : Nat) ∉ [6, 7, 8, 9, 10] by decide)
                    have f245 := k237 _ _ f208 (show (0 : Nat) ∉ [6, 7, 8, 9, 10] by decide)
                    have f246 := k237 _ _ f209 (show (0 : Nat) ∉ [6, 7, 8, 9, 10] by decide)
                    have f247 := k237 _ _ f210 (show (0 : Nat) ∉ [6, 7, 8, 9, 10] by decide)
                    have f248 := k237 _ _ f211 (show (0 : Nat) ∉ [6, 7, 8, 9, 10] by decide)
                    have f249 := k237 _ _ f212 (show (0 : Nat) ∉ [6, 7, 8, 9, 10] by decide)
                    have f250 := k237 _ _ f213 (show (0 : Nat) ∉ [6, 7, 8, 9, 10] by decide)
                    have f251 := k237 _ _ f199 (show (0 : Nat) ∉ [6, 7, 8, 9, 10] by decide)
                    have f252 := k237 _ _ f214 (show (0 : Nat) ∉ [6, 7, 8, 9, 10] by decide)
                    have f253 := k237 _ _ f215 (show (0 : Nat) ∉ [6, 7, 8, 9, 10] by decide)
                    have f254 := k237 _ _ f216 (show (0 : Nat) ∉ [6, 7, 8, 9, 10] by decide)
                    have f255 := k237 _ _ f217 (show (0 : Nat) ∉ [6, 7, 8, 9, 10] by decide)
                    have f256 := k237 _ _ f218 (show (0 : Nat) ∉ [6, 7, 8, 9, 10] by decide)
                    have f257 := k237 _ _ f200 (show (0 : Nat) ∉ [6, 7, 8, 9, 10] by decide)
                    have f258 := f219.kx k237 (show (1 : Nat) ∉ [6, 7, 8, 9, 10] by decide) (show (2 : Nat) ∉ [6, 7, 8, 9, 10] by decide)
                    have f259 := f221.kx k237 (show (11 : Nat) ∉ [6, 7, 8, 9, 10] by decide) (show (12 : Nat) ∉ [6, 7, 8, 9, 10] by decide) (show (0 : Nat) ∉ [6, 7, 8, 9, 10] by decide)
                    have f260 := f222.kx k237 (show (13 : Nat) ∉ [6, 7, 8, 9, 10] by decide) (show (14 : Nat) ∉ [6, 7, 8, 9, 10] by decide) (show (0 : Nat) ∉ [6, 7, 8, 9, 10] by decide)
                    have f261 := f223.kx k237 (show (15 : Nat) ∉ [6, 7, 8, 9, 10] by decide) (show (16 : Nat) ∉ [6, 7, 8, 9, 10] by decide) (show (17 : Nat) ∉ [6, 7, 8, 9, 10] by decide) (show (3 : Nat) ∉ [6, 7, 8, 9, 10] by decide) (show (4 : Nat) ∉ [6, 7, 8, 9, 10] by decide)
                    have f262 := f225.kx k237 (show (0 : Nat) ∉ [6, 7, 8, 9, 10] by decide)
                    have f263 := f226.kx k237 (show (0 : Nat) ∉ [6, 7, 8, 9, 10] by decide)
                    have f264 := f227.kx k237 (show (0 : Nat) ∉ [6, 7, 8, 9, 10] by decide)
                    have f265 := f228.kx k237 (show (0 : Nat) ∉ [6, 7, 8, 9, 10] by decide)
                    have f266 := f229.kx k237 (show (0 : Nat) ∉ [6, 7, 8, 9, 10] by decide)
                    have f267 := f230.kx k237 (show (0 : Nat) ∉ [6, 7, 8, 9, 10] by decide)
                    have f268 := f231.kx k237 (show (0 : Nat) ∉ [6, 7, 8, 9, 10] by decide)
                    have f269 := f232.kx k237 (show (0 : Nat) ∉ [6, 7, 8, 9, 10] by decide)
                    have f270 := f233.kx k237 (show (0 : Nat) ∉ [6, 7, 8, 9, 10] by decide) (show (0 : Nat) ∉ [6, 7, 8, 9, 10] by decide) (show (0 : Nat) ∉ [6, 7, 8, 9, 10] by decide)
                    have f271 := f196.kx k237 (show (0 : Nat) ∉ [6, 7, 8, 9, 10] by decide)
                    have hup : gr_up n R cs true = some 0 := if_neg (by simp)
                    have hfi : gr_find R n (gr_w cs 3) = none := q97
                    have hse : gr_find R n (gr_w cs 4) = none := q103
                    have hhd : gr_hd n R cs true 3 (some 0) (none) (none) = .inr 0 := by rw [gr_hd_s, if_neg (by simp; omega), if_neg (by rw [q151]; simp), if_neg (fun h9 => by rcases h9 with h9 | h9 | h9 | h9; rw [q178] at h9; cases h9; rw [← e182, q183] at h9; cases h9; rw [← e187, q188] at h9; cases h9; exact h9.1 rfl)]
                    have hg : gr_dc n R cs true (if true = true then 3 else 4) = gr_cadd n R (gr_row R n (gr_w cs 1) true (some 0) (none) (none)) := by show gr_dc n R cs true 3 = _; unfold gr_dc; rw [hup, hfi, hse, hhd]
                    exact pd_iret (v := r234) X w ⟨by rw [hg]; exact e238, pd_kx.tr (pd_kx.mono (us := [6, 7, 8, 9, 10]) (pd_kx.tr (pd_kx.tr (pd_kx.tr (k31) (k64)) (k115)) (k193)) (by simp)) (k237), A239, (by rw [hg]; exact ⟨lb, cl, me, ru, bk, f242, hz_x, f258, f241, (pd_Mems.ag f259 ag240 gr_cadd_le), f260, f261, ht60⟩)⟩ (by decide) (by decide) d_p1m14_236
            · -- some
              refine pd_top (v' := .ref (A i153)) (by rw [q154]; rfl) ?_
              have hl : lv_has ls 11 [(9, .int (nI 0)), (8, .int (nI 0)), (7, .null), (6, .null), (5, .ref (A 0)), (4, .int (nI 0)), (3, .int (nI 3)), (0, .ref x), (1, .ref y), (2, .int (nI 1))] := hl
              have i153lt := gr_fi_lt q151
              refine lv_ifnull hx hb d_p1m14_160 ?_
              refine lv_bipush (v := -3) hx hb d_p1m14_163 (by decide) ?_
              have hup : gr_up n R cs true = some 0 := if_neg (by simp)
              have hfi : gr_find R n (gr_w cs 3) = none := q97
              have hse : gr_find R n (gr_w cs 4) = none := q103
              have hhd : gr_hd n R cs true 3 (some 0) (none) (none) = .inl (-3) := by rw [gr_hd_s, if_neg (by simp; omega), if_pos (by rw [q151]; simp)]
              have hg : gr_dc n R cs true (if true = true then 3 else 4) = ((-3), n, R) := by show gr_dc n R cs true 3 = _; unfold gr_dc; rw [hup, hfi, hse, hhd]
              exact pd_iret (v := (-3)) X w ⟨by rw [hg], pd_kx.mono (us := [6, 7, 8, 9, 10]) (pd_kx.tr (pd_kx.tr (k31) (k64)) (k115)) (by simp), A, (by rw [hg]; exact ⟨lb, cl, me, ru, bk, f126, hz_x, f135, f136, f137, f138, f139, ht60⟩)⟩ (by decide) (by decide) d_p1m14_165
          · -- not taken: 123
            refine lv_iconst (v := nI 1) hx hb d_p1m14_123 (by decide) ?_
            refine lv_goto (tgt := 128) hx hb d_p1m14_124 (by decide) ?_
            refine lv_istore (lv' := [(9, .int (nI 1)), (8, .int (nI 0)), (7, .null), (6, .null), (5, .ref (A 0)), (4, .int (nI 0)), (3, .int (nI 3)), (0, .ref x), (1, .ref y), (2, .int (nI 1))]) hx hb d_p1m14_128 hl (by decide) rfl (fun ls hl => ?_)
            refine lv_aload hx hb d_p1m14_130 (lv_at hl 4 rfl) ?_
            refine lv_ifnull hx hb d_p1m14_132 ?_
            refine lv_iload hx hb d_p1m14_135 (lv_at hl 1 rfl) ?_
            refine pd_zne (tgt := 145) hx hb d_p1m14_137 (by decide) (by decide) (fun q => absurd q (by decide)) (fun _ => ?_)
            refine lv_iload hx hb d_p1m14_140 (lv_at hl 0 rfl) ?_
            refine pd_zeq (tgt := 148) hx hb d_p1m14_142 (by decide) (by decide) (fun q => absurd q (by decide)) (fun _ => ?_)
            refine lv_bipush (v := -2) hx hb d_p1m14_145 (by decide) ?_
            have hup : gr_up n R cs true = some 0 := if_neg (by simp)
            have hfi : gr_find R n (gr_w cs 3) = none := q97
            have hse : gr_find R n (gr_w cs 4) = none := q103
            have hhd : gr_hd n R cs true 3 (some 0) (none) (none) = .inl (-2) := by rw [gr_hd_s, if_pos (by simp; omega)]
            have hg : gr_dc n R cs true (if true = true then 3 else 4) = ((-2), n, R) := by show gr_dc n R cs true 3 = _; unfold gr_dc; rw [hup, hfi, hse, hhd]
            exact pd_iret (v := (-2)) X w ⟨by rw [hg], pd_kx.mono (us := [6, 7, 8, 9, 10]) (pd_kx.tr (k31) (k64)) (by simp), A, (by rw [hg]; exact ⟨lb, cl, me, ru, bk, f75, hz_x, f82, f83, f84, f85, f86, ht60⟩)⟩ (by decide) (by decide) d_p1m14_147
        · -- some
          refine pd_top (v' := .ref (A i105)) (by rw [q106]; rfl) ?_
          rw [q106] at hl
          have hl : lv_has ls 11 [(8, .int (nI 0)), (7, .ref (A i105)), (6, .null), (5, .ref (A 0)), (4, .int (nI 0)), (3, .int (nI 3)), (0, .ref x), (1, .ref y), (2, .int (nI 1))] := hl
          have i105lt := gr_fi_lt q103
          refine lv_ifnonnull (tgt := 127) hx hb d_p1m14_110 (by decide) ?_
          refine lv_iconst (v := nI 0) hx hb d_p1m14_127 (by decide) ?_
          refine lv_istore (lv' := [(9, .int (nI 0)), (8, .int (nI 0)), (7, .ref (A i105)), (6, .null), (5, .ref (A 0)), (4, .int (nI 0)), (3, .int (nI 3)), (0, .ref x), (1, .ref y), (2, .int (nI 1))]) hx hb d_p1m14_128 hl (by decide) rfl (fun ls hl => ?_)
          refine lv_aload hx hb d_p1m14_130 (lv_at hl 4 rfl) ?_
          refine lv_ifnull hx hb d_p1m14_132 ?_
          refine lv_iload hx hb d_p1m14_135 (lv_at hl 1 rfl) ?_
          refine pd_zne (tgt := 145) hx hb d_p1m14_137 (by decide) (by decide) (fun q => absurd q (by decide)) (fun _ => ?_)
          refine lv_iload hx hb d_p1m14_140 (lv_at hl 0 rfl) ?_
          refine pd_zeq (tgt := 148) hx hb d_p1m14_142 (by decide) (by decide) (fun _ => ?_) (fun q => absurd q (by decide))
          refine lv_aload_n hx hb d_p1m14_148 rfl (lv_at hl 7 rfl) ?_
          refine pd_get X w f75 rfl 1 (by decide) mT_368 rfl rfl d_p1m14_149 ?_
          refine lv_aload_n hx hb d_p1m14_152 rfl (lv_at hl 8 rfl) ?_
          refine lv_iconst (v := nI 1) hx hb d_p1m14_153 (by decide) ?_
          refine pd_cV (a := y) (As := [.int (nI 1)]) (rest := [.ref cl]) X w f77 rfl (c_Line_word l G h62 (by assumption) (by omega)) ok_Line_word ⟨mT_574, mT_575⟩ mT_573 ⟨by decide, by decide⟩ rfl hl.1 rfl (Nat.le_of_ble_eq_true rfl) d_p1m14_154 ⟨by decide, by decide⟩ (fun r280 h281 H locs hp282 w => ?_)
          refine W.widen (k := 6) (n := 192) (by decide) (by decide) ?_
          obtain ⟨k283, ds284, e285, f286⟩ := hp282
          have f294 := k283 _ _ f75 List.not_mem_nil
          have f295 := k283 _ _ f76 List.not_mem_nil
          have f296 := k283 _ _ f77 List.not_mem_nil
          have f297 := k283 _ _ f78 List.not_mem_nil
          have f298 := k283 _ _ f79 List.not_mem_nil
          have f299 := k283 _ _ f70 List.not_mem_nil
          have f300 := k283 _ _ f80 List.not_mem_nil
          have f301 := k283 _ _ f81 List.not_mem_nil
          have f302 := k283 _ _ f71 List.not_mem_nil
          have f303 := f82.kx k283 List.not_mem_nil List.not_mem_nil
          have f304 := f83.kx k283 List.not_mem_nil List.not_mem_nil List.not_mem_nil
          have f305 := f84.kx k283 List.not_mem_nil List.not_mem_nil List.not_mem_nil
          have f306 := f85.kx k283 List.not_mem_nil List.not_mem_nil List.not_mem_nil
          have f307 := f86.kx k283 List.not_mem_nil List.not_mem_nil List.not_mem_nil List.not_mem_nil List.not_mem_nil
          have f308 := f87.kx k283 List.not_mem_nil
          have f309 := f88.kx k283 List.not_mem_nil
          have f310 := f89.kx k283 List.not_mem_nil
          have f311 := f90.kx k283 List.not_mem_nil
          have f312 := f91.kx k283 List.not_mem_nil
          have f313 := f92.kx k283 List.not_mem_nil
          have f314 := f67.kx k283 List.not_mem_nil
          obtain ⟨v287, g288, f289, f290, gf291, gc292, gl293⟩ := id f286
          subst e285
          refine pd_cV (a := cl) (As := [.ref r280]) (rest := []) X w f295 rfl (c_Classes_find l G h281 (by assumption) (by assumption)) ok_Classes_find ⟨mT_773, mT_774⟩ mT_772 ⟨by decide, by decide⟩ rfl hl.1 rfl (Nat.le_of_ble_eq_true rfl) d_p1m14_157 ⟨by decide, by decide⟩ (fun r315 h316 H locs hp317 w => ?_)
          refine W.widen (k := 6) (n := 192) (by decide) (by decide) ?_
          obtain ⟨e318, rfl⟩ := hp317
          rcases pd_om e318 with ⟨q319, q322⟩ | ⟨i321, q319, q322⟩
          · -- none
            refine pd_top (v' := .null) (by rw [q322]; rfl) ?_
            have hl : lv_has ls 11 [(9, .int (nI 0)), (8, .int (nI 0)), (7, .ref (A i105)), (6, .null), (5, .ref (A 0)), (4, .int (nI 0)), (3, .int (nI 3)), (0, .ref x), (1, .ref y), (2, .int (nI 1))] := hl
            refine lv_ifnullN (tgt := 166) hx hb d_p1m14_160 (by decide) ?_
            refine lv_aloadN hx hb d_p1m14_166 (lv_at hl 3 rfl) ?_
            refine lv_ifnullN (tgt := 182) hx hb d_p1m14_168 (by decide) ?_
            refine lv_iconst (v := nI 0) hx hb d_p1m14_182 (by decide) ?_
            refine lv_istore (lv' := [(10, .int (nI 0)), (9, .int (nI 0)), (8, .int (nI 0)), (7, .ref (A i105)), (6, .null), (5, .ref (A 0)), (4, .int (nI 0)), (3, .int (nI 3)), (0, .ref x), (1, .ref y), (2, .int (nI 1))]) hx hb d_p1m14_183 hl (by decide) rfl (fun ls hl => ?_)
            refine lv_aload hx hb d_p1m14_185 (lv_at hl 5 rfl) ?_
            obtain ⟨nm325, fx326, f327, f328, f329⟩ := f308.1 0 (by omega)
            obtain ⟨v330, g331, f332, f333, gf334, gc335, gl336⟩ := id f328
            obtain ⟨v337, cap338, g339, f340, z341, z342, z343, z344, z345⟩ := id f329
            refine pd_get X w f327 rfl 2 (by decide) mT_260 rfl rfl d_p1m14_187 ?_
            refine pd_bne (tgt := 214) hx hb d_p1m14_190 (by decide) (fun q346 => ?_) (fun q346 => ?_)
            · -- taken: 214
              refine lv_bipush (v := -4) hx hb d_p1m14_214 (by decide) ?_
              have hup : gr_up n R cs true = some 0 := if_neg (by simp)
              have hfi : gr_find R n (gr_w cs 3) = none := q97
              have hse : gr_find R n (gr_w cs 4) = some i105 := q103
              have hhd : gr_hd n R cs true 3 (some 0) (none) (some i105) = .inl (-4) := by rw [gr_hd_s, if_neg (by simp; omega), if_neg (by rw [q319]; simp), if_pos (Or.inl q346)]
              have hg : gr_dc n R cs true (if true = true then 3 else 4) = ((-4), n, R) := by show gr_dc n R cs true 3 = _; unfold gr_dc; rw [hup, hfi, hse, hhd]
              exact pd_iret (v := (-4)) X w ⟨by rw [hg], pd_kx.mono (us := [6, 7, 8, 9, 10]) (pd_kx.tr (pd_kx.tr (k31) (k64)) (k283)) (by simp), A, (by rw [hg]; exact ⟨lb, cl, me, ru, bk, f294, hz_x, f303, f304, f305, f306, f307, ht60⟩)⟩ (by decide) (by decide) d_p1m14_216
            · -- not taken: 193
              refine lv_aloadN hx hb d_p1m14_193 (lv_at hl 4 rfl) ?_
              refine pd_cS (As := [.null]) (rest := []) X w (c_PolicyDesk_isPlainClass l G h281 (A := A) (n := n) (R := R) (o := none) (by assumption) (fun t ht => by cases ht)) ok_PolicyDesk_isPlainClass mT_778 mT_777 ⟨by decide, by decide⟩ rfl hl.1 rfl (Nat.le_of_ble_eq_true rfl) d_p1m14_195 ⟨by decide, by decide⟩ (fun r347 h348 H locs hp349 w => ?_)
              refine W.widen (k := 6) (n := 192) (by decide) (by decide) ?_
              obtain ⟨e350, rfl⟩ := hp349
              refine pd_bne (tgt := 214) hx hb d_p1m14_198 (by decide) (fun q351 => ?_) (fun q351 => ?_)
              · -- taken: 214
                refine lv_bipush (v := -4) hx hb d_p1m14_214 (by decide) ?_
                have hup : gr_up n R cs true = some 0 := if_neg (by simp)
                have hfi : gr_find R n (gr_w cs 3) = none := q97
                have hse : gr_find R n (gr_w cs 4) = some i105 := q103
                have hhd : gr_hd n R cs true 3 (some 0) (none) (some i105) = .inl (-4) := by rw [gr_hd_s, if_neg (by simp; omega), if_neg (by rw [q319]; simp), if_pos (Or.inr (Or.inl (e350.symm.trans q351)))]
                have hg : gr_dc n R cs true (if true = true then 3 else 4) = ((-4), n, R) := by show gr_dc n R cs true 3 = _; unfold gr_dc; rw [hup, hfi, hse, hhd]
                exact pd_iret (v := (-4)) X w ⟨by rw [hg], pd_kx.mono (us := [6, 7, 8, 9, 10]) (pd_kx.tr (pd_kx.tr (k31) (k64)) (k283)) (by simp), A, (by rw [hg]; exact ⟨lb, cl, me, ru, bk, f294, hz_x, f303, f304, f305, f306, f307, ht60⟩)⟩ (by decide) (by decide) d_p1m14_216
              · -- not taken: 201
                refine lv_aload hx hb d_p1m14_201 (lv_at hl 3 rfl) ?_
                refine pd_cS (As := [.ref (A i105)]) (rest := []) X w (c_PolicyDesk_isPlainClass l G h281 (A := A) (n := n) (R := R) (o := some i105) (by assumption) (fun t ht => by cases ht; omega)) ok_PolicyDesk_isPlainClass mT_778 mT_777 ⟨by decide, by decide⟩ rfl hl.1 rfl (Nat.le_of_ble_eq_true rfl) d_p1m14_203 ⟨by decide, by decide⟩ (fun r352 h353 H locs hp354 w => ?_)
                refine W.widen (k := 6) (n := 192) (by decide) (by decide) ?_
                obtain ⟨e355, rfl⟩ := hp354
                refine pd_bne (tgt := 214) hx hb d_p1m14_206 (by decide) (fun q356 => ?_) (fun q356 => ?_)
                · -- taken: 214
                  refine lv_bipush (v := -4) hx hb d_p1m14_214 (by decide) ?_
                  have hup : gr_up n R cs true = some 0 := if_neg (by simp)
                  have hfi : gr_find R n (gr_w cs 3) = none := q97
                  have hse : gr_find R n (gr_w cs 4) = some i105 := q103
                  have hhd : gr_hd n R cs true 3 (some 0) (none) (some i105) = .inl (-4) := by rw [gr_hd_s, if_neg (by simp; omega), if_neg (by rw [q319]; simp), if_pos (Or.inr (Or.inr (Or.inl (e355.symm.trans q356))))]
                  have hg : gr_dc n R cs true (if true = true then 3 else 4) = ((-4), n, R) := by show gr_dc n R cs true 3 = _; unfold gr_dc; rw [hup, hfi, hse, hhd]
                  exact pd_iret (v := (-4)) X w ⟨by rw [hg], pd_kx.mono (us := [6, 7, 8, 9, 10]) (pd_kx.tr (pd_kx.tr (k31) (k64)) (k283)) (by simp), A, (by rw [hg]; exact ⟨lb, cl, me, ru, bk, f294, hz_x, f303, f304, f305, f306, f307, ht60⟩)⟩ (by decide) (by decide) d_p1m14_216
                · -- not taken: 209
                  refine lv_iload hx hb d_p1m14_209 (lv_at hl 0 rfl) ?_
                  refine pd_zeq (tgt := 217) hx hb d_p1m14_211 (by decide) (by decide) (fun _ => ?_) (fun q => absurd q (by decide))
                  refine lv_aload_n hx hb d_p1m14_217 rfl (lv_at hl 8 rfl) ?_
                  refine pd_get X w f294 rfl 1 (by decide) mT_368 rfl rfl d_p1m14_218 ?_
                  refine lv_aload_n hx hb d_p1m14_221 rfl (lv_at hl 9 rfl) ?_
                  refine lv_iconst (v := nI 1) hx hb d_p1m14_222 (by decide) ?_
                  refine pd_cV (a := y) (As := [.int (nI 1)]) (rest := [.ref cl]) X w f296 rfl (c_Line_word l G h281 (by assumption) (by omega)) ok_Line_word ⟨mT_574, mT_575⟩ mT_573 ⟨by decide, by decide⟩ rfl hl.1 rfl (Nat.le_of_ble_eq_true rfl) d_p1m14_223 ⟨by decide, by decide⟩ (fun r358 h359 H locs hp360 w => ?_)
                  refine W.widen (k := 8) (n := 256) (by decide) (by decide) ?_
                  obtain ⟨k361, ds362, e363, f364⟩ := hp360
                  have f372 := k361 _ _ f294 List.not_mem_nil
                  have f373 := k361 _ _ f295 List.not_mem_nil
                  have f374 := k361 _ _ f296 List.not_mem_nil
                  have f375 := k361 _ _ f297 List.not_mem_nil
                  have f376 := k361 _ _ f298 List.not_mem_nil
                  have f377 := k361 _ _ f299 List.not_mem_nil
                  have f378 := k361 _ _ f289 List.not_mem_nil
                  have f379 := k361 _ _ f327 List.not_mem_nil
                  have f380 := k361 _ _ f332 List.not_mem_nil
                  have f381 := k361 _ _ f340 List.not_mem_nil
                  have f382 := k361 _ _ f300 List.not_mem_nil
                  have f383 := k361 _ _ f301 List.not_mem_nil
                  have f384 := k361 _ _ f302 List.not_mem_nil
                  have f385 := k361 _ _ f290 List.not_mem_nil
                  have f386 := k361 _ _ f333 List.not_mem_nil
                  have f387 := f303.kx k361 List.not_mem_nil List.not_mem_nil
                  have f388 := f304.kx k361 List.not_mem_nil List.not_mem_nil List.not_mem_nil
                  have f389 := f305.kx k361 List.not_mem_nil List.not_mem_nil List.not_mem_nil
                  have f390 := f306.kx k361 List.not_mem_nil List.not_mem_nil List.not_mem_nil
                  have f391 := f307.kx k361 List.not_mem_nil List.not_mem_nil List.not_mem_nil List.not_mem_nil List.not_mem_nil
                  have f392 := f308.kx k361 List.not_mem_nil
                  have f393 := f309.kx k361 List.not_mem_nil
                  have f394 := f310.kx k361 List.not_mem_nil
                  have f395 := f311.kx k361 List.not_mem_nil
                  have f396 := f312.kx k361 List.not_mem_nil
                  have f397 := f313.kx k361 List.not_mem_nil
                  have f398 := f314.kx k361 List.not_mem_nil
                  have f399 := f286.kx k361 List.not_mem_nil
                  have f400 := f328.kx k361 List.not_mem_nil
                  have f401 := f329.kx k361 List.not_mem_nil List.not_mem_nil List.not_mem_nil
                  obtain ⟨v365, g366, f367, f368, gf369, gc370, gl371⟩ := id f364
                  subst e363
                  refine lv_iload_n hx hb d_p1m14_226 rfl (lv_at hl 10 rfl) ?_
                  refine lv_aload hx hb d_p1m14_227 (lv_at hl 5 rfl) ?_
                  refine lv_aloadN hx hb d_p1m14_229 (lv_at hl 4 rfl) ?_
                  refine lv_aload hx hb d_p1m14_231 (lv_at hl 3 rfl) ?_
                  refine pd_cV (a := cl) (As := [.ref r358, .int (nI 1), .ref (A 0), .null, .ref (A i105)]) (rest := []) X w f373 rfl (c_Classes_add l G h359 (A := A) (n := n) (R := R) (bi := true) (ab := some 0) (fi := none) (se := some i105) (by assumption) (by assumption) (fun t ht => by cases ht; omega) (fun t ht => by cases ht) (fun t ht => by cases ht; omega)) ok_Classes_add ⟨mT_781, mT_782⟩ mT_780 ⟨by decide, by decide⟩ rfl hl.1 rfl (Nat.le_of_ble_eq_true rfl) d_p1m14_233 ⟨by decide, by decide⟩ (fun r402 h403 H locs hp404 w => ?_)
                  refine W.widen (k := 38) (n := 688) (by decide) (by decide) ?_
                  obtain ⟨k405, e406, A407, ag408, f409⟩ := hp404
                  have f410 := k405 _ _ f372 (show (5 : Nat) ∉ [6, 7, 8, 9, 10] by decide)
                  have f411 := k405 _ _ f374 (show (0 : Nat) ∉ [6, 7, 8, 9, 10] by decide)
                  have f412 := k405 _ _ f375 (show (0 : Nat) ∉ [6, 7, 8, 9, 10] by decide)
                  have f413 := k405 _ _ f376 (show (0 : Nat) ∉ [6, 7, 8, 9, 10] by decide)
                  have f414 := k405 _ _ f377 (show (0 : Nat) ∉ [6, 7, 8, 9, 10] by decide)
                  have f415 := k405 _ _ f378 (show (0 : Nat) ∉ [6, 7, 8, 9, 10] by decide)
                  have f416 := k405 _ _ f379 (show (0 : Nat) ∉ [6, 7, 8, 9, 10] by decide)
                  have f417 := k405 _ _ f380 (show (0 : Nat) ∉ [6, 7, 8, 9, 10] by decide)
                  have f418 := k405 _ _ f381 (show (0 : Nat) ∉ [6, 7, 8, 9, 10] by decide)
                  have f419 := k405 _ _ f367 (show (0 : Nat) ∉ [6, 7, 8, 9, 10] by decide)
                  have f420 := k405 _ _ f382 (show (0 : Nat) ∉ [6, 7, 8, 9, 10] by decide)
                  have f421 := k405 _ _ f383 (show (0 : Nat) ∉ [6, 7, 8, 9, 10] by decide)
                  have f422 := k405 _ _ f384 (show (0 : Nat) ∉ [6, 7, 8, 9, 10] by decide)
                  have f423 := k405 _ _ f385 (show (0 : Nat) ∉ [6, 7, 8, 9, 10] by decide)
                  have f424 := k405 _ _ f386 (show (0 : Nat) ∉ [6, 7, 8, 9, 10] by decide)
                  have f425 := k405 _ _ f368 (show (0 : Nat) ∉ [6, 7, 8, 9, 10] by decide)
                  have f426 := f387.kx k405 (show (1 : Nat) ∉ [6, 7, 8, 9, 10] by decide) (show (2 : Nat) ∉ [6, 7, 8, 9, 10] by decide)
                  have f427 := f389.kx k405 (show (11 : Nat) ∉ [6, 7, 8, 9, 10] by decide) (show (12 : Nat) ∉ [6, 7, 8, 9, 10] by decide) (show (0 : Nat) ∉ [6, 7, 8, 9, 10] by decide)
                  have f428 := f390.kx k405 (show (13 : Nat) ∉ [6, 7, 8, 9, 10] by decide) (show (14 : Nat) ∉ [6, 7, 8, 9, 10] by decide) (show (0 : Nat) ∉ [6, 7, 8, 9, 10] by decide)
                  have f429 := f391.kx k405 (show (15 : Nat) ∉ [6, 7, 8, 9, 10] by decide) (show (16 : Nat) ∉ [6, 7, 8, 9, 10] by decide) (show (17 : Nat) ∉ [6, 7, 8, 9, 10] by decide) (show (3 : Nat) ∉ [6, 7, 8, 9, 10] by decide) (show (4 : Nat) ∉ [6, 7, 8, 9, 10] by decide)
                  have f430 := f393.kx k405 (show (0 : Nat) ∉ [6, 7, 8, 9, 10] by decide)
                  have f431 := f394.kx k405 (show (0 : Nat) ∉ [6, 7, 8, 9, 10] by decide)
                  have f432 := f395.kx k405 (show (0 : Nat) ∉ [6, 7, 8, 9, 10] by decide)
                  have f433 := f396.kx k405 (show (0 : Nat) ∉ [6, 7, 8, 9, 10] by decide)
                  have f434 := f397.kx k405 (show (0 : Nat) ∉ [6, 7, 8, 9, 10] by decide)
                  have f435 := f398.kx k405 (show (0 : Nat) ∉ [6, 7, 8, 9, 10] by decide)
                  have f436 := f399.kx k405 (show (0 : Nat) ∉ [6, 7, 8, 9, 10] by decide)
                  have f437 := f400.kx k405 (show (0 : Nat) ∉ [6, 7, 8, 9, 10] by decide)
                  have f438 := f401.kx k405 (show (0 : Nat) ∉ [6, 7, 8, 9, 10] by decide) (show (0 : Nat) ∉ [6, 7, 8, 9, 10] by decide) (show (0 : Nat) ∉ [6, 7, 8, 9, 10] by decide)
                  have f439 := f364.kx k405 (show (0 : Nat) ∉ [6, 7, 8, 9, 10] by decide)
                  have hup : gr_up n R cs true = some 0 := if_neg (by simp)
                  have hfi : gr_find R n (gr_w cs 3) = none := q97
                  have hse : gr_find R n (gr_w cs 4) = some i105 := q103
                  have hhd : gr_hd n R cs true 3 (some 0) (none) (some i105) = .inr 0 := by rw [gr_hd_s, if_neg (by simp; omega), if_neg (by rw [q319]; simp), if_neg (fun h9 => by rcases h9 with h9 | h9 | h9 | h9; rw [q346] at h9; cases h9; rw [← e350, q351] at h9; cases h9; rw [← e355, q356] at h9; cases h9; exact h9.1 rfl)]
                  have hg : gr_dc n R cs true (if true = true then 3 else 4) = gr_cadd n R (gr_row R n (gr_w cs 1) true (some 0) (none) (some i105)) := by show gr_dc n R cs true 3 = _; unfold gr_dc; rw [hup, hfi, hse, hhd]
                  exact pd_iret (v := r402) X w ⟨by rw [hg]; exact e406, pd_kx.tr (pd_kx.mono (us := [6, 7, 8, 9, 10]) (pd_kx.tr (pd_kx.tr (pd_kx.tr (k31) (k64)) (k283)) (k361)) (by simp)) (k405), A407, (by rw [hg]; exact ⟨lb, cl, me, ru, bk, f410, hz_x, f426, f409, (pd_Mems.ag f427 ag408 gr_cadd_le), f428, f429, ht60⟩)⟩ (by decide) (by decide) d_p1m14_236
          · -- some
            refine pd_top (v' := .ref (A i321)) (by rw [q322]; rfl) ?_
            have hl : lv_has ls 11 [(9, .int (nI 0)), (8, .int (nI 0)), (7, .ref (A i105)), (6, .null), (5, .ref (A 0)), (4, .int (nI 0)), (3, .int (nI 3)), (0, .ref x), (1, .ref y), (2, .int (nI 1))] := hl
            have i321lt := gr_fi_lt q319
            refine lv_ifnull hx hb d_p1m14_160 ?_
            refine lv_bipush (v := -3) hx hb d_p1m14_163 (by decide) ?_
            have hup : gr_up n R cs true = some 0 := if_neg (by simp)
            have hfi : gr_find R n (gr_w cs 3) = none := q97
            have hse : gr_find R n (gr_w cs 4) = some i105 := q103
            have hhd : gr_hd n R cs true 3 (some 0) (none) (some i105) = .inl (-3) := by rw [gr_hd_s, if_neg (by simp; omega), if_pos (by rw [q319]; simp)]
            have hg : gr_dc n R cs true (if true = true then 3 else 4) = ((-3), n, R) := by show gr_dc n R cs true 3 = _; unfold gr_dc; rw [hup, hfi, hse, hhd]
            exact pd_iret (v := (-3)) X w ⟨by rw [hg], pd_kx.mono (us := [6, 7, 8, 9, 10]) (pd_kx.tr (pd_kx.tr (k31) (k64)) (k283)) (by simp), A, (by rw [hg]; exact ⟨lb, cl, me, ru, bk, f294, hz_x, f303, f304, f305, f306, f307, ht60⟩)⟩ (by decide) (by decide) d_p1m14_165
      · -- not taken: 101
        refine lv_iconst (v := nI 1) hx hb d_p1m14_101 (by decide) ?_
        refine lv_goto (tgt := 106) hx hb d_p1m14_102 (by decide) ?_
        refine lv_istore (lv' := [(8, .int (nI 1)), (7, va_rf r93), (6, .null), (5, .ref (A 0)), (4, .int (nI 0)), (3, .int (nI 3)), (0, .ref x), (1, .ref y), (2, .int (nI 1))]) hx hb d_p1m14_106 hl (by decide) (by simp [pd_cat]) (fun ls hl => ?_)
        refine pd_oload hx hb d_p1m14_108 (lv_at hl 1 rfl) ?_
        rcases pd_om e96 with ⟨q441, q444⟩ | ⟨i443, q441, q444⟩
        · -- none
          refine pd_top (v' := .null) (by rw [q444]; rfl) ?_
          rw [q444] at hl
          have hl : lv_has ls 11 [(8, .int (nI 1)), (7, .null), (6, .null), (5, .ref (A 0)), (4, .int (nI 0)), (3, .int (nI 3)), (0, .ref x), (1, .ref y), (2, .int (nI 1))] := hl
          refine lv_ifnonnullN hx hb d_p1m14_110 ?_
          refine lv_aload_n hx hb d_p1m14_113 rfl (lv_at hl 7 rfl) ?_
          refine pd_get X w f77 rfl 1 (by decide) mT_544 rfl rfl d_p1m14_114 ?_
          refine lv_iload_n hx hb d_p1m14_117 rfl (lv_at hl 5 rfl) ?_
          refine lv_iconst (v := nI 1) hx hb d_p1m14_118 (by decide) ?_
          refine pd_iadd hx hb d_p1m14_119 ?_
          refine pd_jle (tgt := 127) hx hb d_p1m14_120 (by decide) (by omega) (by omega) (fun q446 => ?_) (fun q446 => ?_)
          · -- taken: 127
            refine lv_iconst (v := nI 0) hx hb d_p1m14_127 (by decide) ?_
            refine lv_istore (lv' := [(9, .int (nI 0)), (8, .int (nI 1)), (7, .null), (6, .null), (5, .ref (A 0)), (4, .int (nI 0)), (3, .int (nI 3)), (0, .ref x), (1, .ref y), (2, .int (nI 1))]) hx hb d_p1m14_128 hl (by decide) rfl (fun ls hl => ?_)
            refine lv_aload hx hb d_p1m14_130 (lv_at hl 4 rfl) ?_
            refine lv_ifnull hx hb d_p1m14_132 ?_
            refine lv_iload hx hb d_p1m14_135 (lv_at hl 1 rfl) ?_
            refine pd_zne (tgt := 145) hx hb d_p1m14_137 (by decide) (by decide) (fun _ => ?_) (fun q => absurd q (by decide))
            refine lv_bipush (v := -2) hx hb d_p1m14_145 (by decide) ?_
            have hup : gr_up n R cs true = some 0 := if_neg (by simp)
            have hfi : gr_find R n (gr_w cs 3) = none := q97
            have hse : gr_find R n (gr_w cs 4) = none := q441
            have hhd : gr_hd n R cs true 3 (some 0) (none) (none) = .inl (-2) := by rw [gr_hd_s, if_pos (by simp; omega)]
            have hg : gr_dc n R cs true (if true = true then 3 else 4) = ((-2), n, R) := by show gr_dc n R cs true 3 = _; unfold gr_dc; rw [hup, hfi, hse, hhd]
            exact pd_iret (v := (-2)) X w ⟨by rw [hg], pd_kx.mono (us := [6, 7, 8, 9, 10]) (pd_kx.tr (k31) (k64)) (by simp), A, (by rw [hg]; exact ⟨lb, cl, me, ru, bk, f75, hz_x, f82, f83, f84, f85, f86, ht60⟩)⟩ (by decide) (by decide) d_p1m14_147
          · -- not taken: 123
            refine lv_iconst (v := nI 1) hx hb d_p1m14_123 (by decide) ?_
            refine lv_goto (tgt := 128) hx hb d_p1m14_124 (by decide) ?_
            refine lv_istore (lv' := [(9, .int (nI 1)), (8, .int (nI 1)), (7, .null), (6, .null), (5, .ref (A 0)), (4, .int (nI 0)), (3, .int (nI 3)), (0, .ref x), (1, .ref y), (2, .int (nI 1))]) hx hb d_p1m14_128 hl (by decide) rfl (fun ls hl => ?_)
            refine lv_aload hx hb d_p1m14_130 (lv_at hl 4 rfl) ?_
            refine lv_ifnull hx hb d_p1m14_132 ?_
            refine lv_iload hx hb d_p1m14_135 (lv_at hl 1 rfl) ?_
            refine pd_zne (tgt := 145) hx hb d_p1m14_137 (by decide) (by decide) (fun _ => ?_) (fun q => absurd q (by decide))
            refine lv_bipush (v := -2) hx hb d_p1m14_145 (by decide) ?_
            have hup : gr_up n R cs true = some 0 := if_neg (by simp)
            have hfi : gr_find R n (gr_w cs 3) = none := q97
            have hse : gr_find R n (gr_w cs 4) = none := q441
            have hhd : gr_hd n R cs true 3 (some 0) (none) (none) = .inl (-2) := by rw [gr_hd_s, if_pos (by simp; omega)]
            have hg : gr_dc n R cs true (if true = true then 3 else 4) = ((-2), n, R) := by show gr_dc n R cs true 3 = _; unfold gr_dc; rw [hup, hfi, hse, hhd]
            exact pd_iret (v := (-2)) X w ⟨by rw [hg], pd_kx.mono (us := [6, 7, 8, 9, 10]) (pd_kx.tr (k31) (k64)) (by simp), A, (by rw [hg]; exact ⟨lb, cl, me, ru, bk, f75, hz_x, f82, f83, f84, f85, f86, ht60⟩)⟩ (by decide) (by decide) d_p1m14_147
        · -- some
          refine pd_top (v' := .ref (A i443)) (by rw [q444]; rfl) ?_
          rw [q444] at hl
          have hl : lv_has ls 11 [(8, .int (nI 1)), (7, .ref (A i443)), (6, .null), (5, .ref (A 0)), (4, .int (nI 0)), (3, .int (nI 3)), (0, .ref x), (1, .ref y), (2, .int (nI 1))] := hl
          have i443lt := gr_fi_lt q441
          refine lv_ifnonnull (tgt := 127) hx hb d_p1m14_110 (by decide) ?_
          refine lv_iconst (v := nI 0) hx hb d_p1m14_127 (by decide) ?_
          refine lv_istore (lv' := [(9, .int (nI 0)), (8, .int (nI 1)), (7, .ref (A i443)), (6, .null), (5, .ref (A 0)), (4, .int (nI 0)), (3, .int (nI 3)), (0, .ref x), (1, .ref y), (2, .int (nI 1))]) hx hb d_p1m14_128 hl (by decide) rfl (fun ls hl => ?_)
          refine lv_aload hx hb d_p1m14_130 (lv_at hl 4 rfl) ?_
          refine lv_ifnull hx hb d_p1m14_132 ?_
          refine lv_iload hx hb d_p1m14_135 (lv_at hl 1 rfl) ?_
          refine pd_zne (tgt := 145) hx hb d_p1m14_137 (by decide) (by decide) (fun _ => ?_) (fun q => absurd q (by decide))
          refine lv_bipush (v := -2) hx hb d_p1m14_145 (by decide) ?_
          have hup : gr_up n R cs true = some 0 := if_neg (by simp)
          have hfi : gr_find R n (gr_w cs 3) = none := q97
          have hse : gr_find R n (gr_w cs 4) = some i443 := q441
          have hhd : gr_hd n R cs true 3 (some 0) (none) (some i443) = .inl (-2) := by rw [gr_hd_s, if_pos (by simp; omega)]
          have hg : gr_dc n R cs true (if true = true then 3 else 4) = ((-2), n, R) := by show gr_dc n R cs true 3 = _; unfold gr_dc; rw [hup, hfi, hse, hhd]
          exact pd_iret (v := (-2)) X w ⟨by rw [hg], pd_kx.mono (us := [6, 7, 8, 9, 10]) (pd_kx.tr (k31) (k64)) (by simp), A, (by rw [hg]; exact ⟨lb, cl, me, ru, bk, f75, hz_x, f82, f83, f84, f85, f86, ht60⟩)⟩ (by decide) (by decide) d_p1m14_147
    · -- some
      refine pd_top (v' := .ref (A i99)) (by rw [q100]; rfl) ?_
      rw [q100] at hl
      have hl : lv_has ls 11 [(7, va_rf r93), (6, .ref (A i99)), (5, .ref (A 0)), (4, .int (nI 0)), (3, .int (nI 3)), (0, .ref x), (1, .ref y), (2, .int (nI 1))] := hl
      have i99lt := gr_fi_lt q97
      refine lv_ifnonnull (tgt := 105) hx hb d_p1m14_90 (by decide) ?_
      refine lv_iconst (v := nI 0) hx hb d_p1m14_105 (by decide) ?_
      refine lv_istore (lv' := [(8, .int (nI 0)), (7, va_rf r93), (6, .ref (A i99)), (5, .ref (A 0)), (4, .int (nI 0)), (3, .int (nI 3)), (0, .ref x), (1, .ref y), (2, .int (nI 1))]) hx hb d_p1m14_106 hl (by decide) (by simp [pd_cat]) (fun ls hl => ?_)
      refine pd_oload hx hb d_p1m14_108 (lv_at hl 1 rfl) ?_
      rcases pd_om e96 with ⟨q455, q458⟩ | ⟨i457, q455, q458⟩
      · -- none
        refine pd_top (v' := .null) (by rw [q458]; rfl) ?_
        rw [q458] at hl
        have hl : lv_has ls 11 [(8, .int (nI 0)), (7, .null), (6, .ref (A i99)), (5, .ref (A 0)), (4, .int (nI 0)), (3, .int (nI 3)), (0, .ref x), (1, .ref y), (2, .int (nI 1))] := hl
        refine lv_ifnonnullN hx hb d_p1m14_110 ?_
        refine lv_aload_n hx hb d_p1m14_113 rfl (lv_at hl 7 rfl) ?_
        refine pd_get X w f77 rfl 1 (by decide) mT_544 rfl rfl d_p1m14_114 ?_
        refine lv_iload_n hx hb d_p1m14_117 rfl (lv_at hl 5 rfl) ?_
        refine lv_iconst (v := nI 1) hx hb d_p1m14_118 (by decide) ?_
        refine pd_iadd hx hb d_p1m14_119 ?_
        refine pd_jle (tgt := 127) hx hb d_p1m14_120 (by decide) (by omega) (by omega) (fun q460 => ?_) (fun q460 => ?_)
        · -- taken: 127
          refine lv_iconst (v := nI 0) hx hb d_p1m14_127 (by decide) ?_
          refine lv_istore (lv' := [(9, .int (nI 0)), (8, .int (nI 0)), (7, .null), (6, .ref (A i99)), (5, .ref (A 0)), (4, .int (nI 0)), (3, .int (nI 3)), (0, .ref x), (1, .ref y), (2, .int (nI 1))]) hx hb d_p1m14_128 hl (by decide) rfl (fun ls hl => ?_)
          refine lv_aload hx hb d_p1m14_130 (lv_at hl 4 rfl) ?_
          refine lv_ifnull hx hb d_p1m14_132 ?_
          refine lv_iload hx hb d_p1m14_135 (lv_at hl 1 rfl) ?_
          refine pd_zne (tgt := 145) hx hb d_p1m14_137 (by decide) (by decide) (fun q => absurd q (by decide)) (fun _ => ?_)
          refine lv_iload hx hb d_p1m14_140 (lv_at hl 0 rfl) ?_
          refine pd_zeq (tgt := 148) hx hb d_p1m14_142 (by decide) (by decide) (fun _ => ?_) (fun q => absurd q (by decide))
          refine lv_aload_n hx hb d_p1m14_148 rfl (lv_at hl 7 rfl) ?_
          refine pd_get X w f75 rfl 1 (by decide) mT_368 rfl rfl d_p1m14_149 ?_
          refine lv_aload_n hx hb d_p1m14_152 rfl (lv_at hl 8 rfl) ?_
          refine lv_iconst (v := nI 1) hx hb d_p1m14_153 (by decide) ?_
          refine pd_cV (a := y) (As := [.int (nI 1)]) (rest := [.ref cl]) X w f77 rfl (c_Line_word l G h62 (by assumption) (by omega)) ok_Line_word ⟨mT_574, mT_575⟩ mT_573 ⟨by decide, by decide⟩ rfl hl.1 rfl (Nat.le_of_ble_eq_true rfl) d_p1m14_154 ⟨by decide, by decide⟩ (fun r464 h465 H locs hp466 w => ?_)
          refine W.widen (k := 6) (n := 192) (by decide) (by decide) ?_
          obtain ⟨k467, ds468, e469, f470⟩ := hp466
          have f478 := k467 _ _ f75 List.not_mem_nil
          have f479 := k467 _ _ f76 List.not_mem_nil
          have f480 := k467 _ _ f77 List.not_mem_nil
          have f481 := k467 _ _ f78 List.not_mem_nil
          have f482 := k467 _ _ f79 List.not_mem_nil
          have f483 := k467 _ _ f70 List.not_mem_nil
          have f484 := k467 _ _ f80 List.not_mem_nil
          have f485 := k467 _ _ f81 List.not_mem_nil
          have f486 := k467 _ _ f71 List.not_mem_nil
          have f487 := f82.kx k467 List.not_mem_nil List.not_mem_nil
          have f488 := f83.kx k467 List.not_mem_nil List.not_mem_nil List.not_mem_nil
          have f489 := f84.kx k467 List.not_mem_nil List.not_mem_nil List.not_mem_nil
          have f490 := f85.kx k467 List.not_mem_nil List.not_mem_nil List.not_mem_nil
          have f491 := f86.kx k467 List.not_mem_nil List.not_mem_nil List.not_mem_nil List.not_mem_nil List.not_mem_nil
          have f492 := f87.kx k467 List.not_mem_nil
          have f493 := f88.kx k467 List.not_mem_nil
          have f494 := f89.kx k467 List.not_mem_nil
          have f495 := f90.kx k467 List.not_mem_nil
          have f496 := f91.kx k467 List.not_mem_nil
          have f497 := f92.kx k467 List.not_mem_nil
          have f498 := f67.kx k467 List.not_mem_nil
          obtain ⟨v471, g472, f473, f474, gf475, gc476, gl477⟩ := id f470
          subst e469
          refine pd_cV (a := cl) (As := [.ref r464]) (rest := []) X w f479 rfl (c_Classes_find l G h465 (by assumption) (by assumption)) ok_Classes_find ⟨mT_773, mT_774⟩ mT_772 ⟨by decide, by decide⟩ rfl hl.1 rfl (Nat.le_of_ble_eq_true rfl) d_p1m14_157 ⟨by decide, by decide⟩ (fun r499 h500 H locs hp501 w => ?_)
          refine W.widen (k := 6) (n := 192) (by decide) (by decide) ?_
          obtain ⟨e502, rfl⟩ := hp501
          rcases pd_om e502 with ⟨q503, q506⟩ | ⟨i505, q503, q506⟩
          · -- none
            refine pd_top (v' := .null) (by rw [q506]; rfl) ?_
            have hl : lv_has ls 11 [(9, .int (nI 0)), (8, .int (nI 0)), (7, .null), (6, .ref (A i99)), (5, .ref (A 0)), (4, .int (nI 0)), (3, .int (nI 3)), (0, .ref x), (1, .ref y), (2, .int (nI 1))] := hl
            refine lv_ifnullN (tgt := 166) hx hb d_p1m14_160 (by decide) ?_
            refine lv_aload hx hb d_p1m14_166 (lv_at hl 3 rfl) ?_
            refine lv_ifnull hx hb d_p1m14_168 ?_
            refine lv_aload hx hb d_p1m14_171 (lv_at hl 3 rfl) ?_
            refine lv_aloadN hx hb d_p1m14_173 (lv_at hl 2 rfl) ?_
            refine lv_acmp_ne (rx := (some (A i99))) (ry := none) (tgt := 182) hx hb d_p1m14_175 (by decide) (fun _ => ?_) (fun q => absurd q (by simp))
            refine lv_iconst (v := nI 0) hx hb d_p1m14_182 (by decide) ?_
            refine lv_istore (lv' := [(10, .int (nI 0)), (9, .int (nI 0)), (8, .int (nI 0)), (7, .null), (6, .ref (A i99)), (5, .ref (A 0)), (4, .int (nI 0)), (3, .int (nI 3)), (0, .ref x), (1, .ref y), (2, .int (nI 1))]) hx hb d_p1m14_183 hl (by decide) rfl (fun ls hl => ?_)
            refine lv_aload hx hb d_p1m14_185 (lv_at hl 5 rfl) ?_
            obtain ⟨nm510, fx511, f512, f513, f514⟩ := f492.1 0 (by omega)
            obtain ⟨v515, g516, f517, f518, gf519, gc520, gl521⟩ := id f513
            obtain ⟨v522, cap523, g524, f525, z526, z527, z528, z529, z530⟩ := id f514
            refine pd_get X w f512 rfl 2 (by decide) mT_260 rfl rfl d_p1m14_187 ?_
            refine pd_bne (tgt := 214) hx hb d_p1m14_190 (by decide) (fun q531 => ?_) (fun q531 => ?_)
            · -- taken: 214
              refine lv_bipush (v := -4) hx hb d_p1m14_214 (by decide) ?_
              have hup : gr_up n R cs true = some 0 := if_neg (by simp)
              have hfi : gr_find R n (gr_w cs 3) = some i99 := q97
              have hse : gr_find R n (gr_w cs 4) = none := q455
              have hhd : gr_hd n R cs true 3 (some 0) (some i99) (none) = .inl (-4) := by rw [gr_hd_s, if_neg (by simp; omega), if_neg (by rw [q503]; simp), if_pos (Or.inl q531)]
              have hg : gr_dc n R cs true (if true = true then 3 else 4) = ((-4), n, R) := by show gr_dc n R cs true 3 = _; unfold gr_dc; rw [hup, hfi, hse, hhd]
              exact pd_iret (v := (-4)) X w ⟨by rw [hg], pd_kx.mono (us := [6, 7, 8, 9, 10]) (pd_kx.tr (pd_kx.tr (k31) (k64)) (k467)) (by simp), A, (by rw [hg]; exact ⟨lb, cl, me, ru, bk, f478, hz_x, f487, f488, f489, f490, f491, ht60⟩)⟩ (by decide) (by decide) d_p1m14_216
            · -- not taken: 193
              refine lv_aload hx hb d_p1m14_193 (lv_at hl 4 rfl) ?_
              refine pd_cS (As := [.ref (A i99)]) (rest := []) X w (c_PolicyDesk_isPlainClass l G h465 (A := A) (n := n) (R := R) (o := some i99) (by assumption) (fun t ht => by cases ht; omega)) ok_PolicyDesk_isPlainClass mT_778 mT_777 ⟨by decide, by decide⟩ rfl hl.1 rfl (Nat.le_of_ble_eq_true rfl) d_p1m14_195 ⟨by decide, by decide⟩ (fun r532 h533 H locs hp534 w => ?_)
              refine W.widen (k := 6) (n := 192) (by decide) (by decide) ?_
              obtain ⟨e535, rfl⟩ := hp534
              refine pd_bne (tgt := 214) hx hb d_p1m14_198 (by decide) (fun q536 => ?_) (fun q536 => ?_)
              · -- taken: 214
                refine lv_bipush (v := -4) hx hb d_p1m14_214 (by decide) ?_
                have hup : gr_up n R cs true = some 0 := if_neg (by simp)
                have hfi : gr_find R n (gr_w cs 3) = some i99 := q97
                have hse : gr_find R n (gr_w cs 4) = none := q455
                have hhd : gr_hd n R cs true 3 (some 0) (some i99) (none) = .inl (-4) := by rw [gr_hd_s, if_neg (by simp; omega), if_neg (by rw [q503]; simp), if_pos (Or.inr (Or.inl (e535.symm.trans q536)))]
                have hg : gr_dc n R cs true (if true = true then 3 else 4) = ((-4), n, R) := by show gr_dc n R cs true 3 = _; unfold gr_dc; rw [hup, hfi, hse, hhd]
                exact pd_iret (v := (-4)) X w ⟨by rw [hg], pd_kx.mono (us := [6, 7, 8, 9, 10]) (pd_kx.tr (pd_kx.tr (k31) (k64)) (k467)) (by simp), A, (by rw [hg]; exact ⟨lb, cl, me, ru, bk, f478, hz_x, f487, f488, f489, f490, f491, ht60⟩)⟩ (by decide) (by decide) d_p1m14_216
              · -- not taken: 201
                refine lv_aloadN hx hb d_p1m14_201 (lv_at hl 3 rfl) ?_
                refine pd_cS (As := [.null]) (rest := []) X w (c_PolicyDesk_isPlainClass l G h465 (A := A) (n := n) (R := R) (o := none) (by assumption) (fun t ht => by cases ht)) ok_PolicyDesk_isPlainClass mT_778 mT_777 ⟨by decide, by decide⟩ rfl hl.1 rfl (Nat.le_of_ble_eq_true rfl) d_p1m14_203 ⟨by decide, by decide⟩ (fun r537 h538 H locs hp539 w => ?_)
                refine W.widen (k := 6) (n := 192) (by decide) (by decide) ?_
                obtain ⟨e540, rfl⟩ := hp539
                refine pd_bne (tgt := 214) hx hb d_p1m14_206 (by decide) (fun q541 => ?_) (fun q541 => ?_)
                · -- taken: 214
                  refine lv_bipush (v := -4) hx hb d_p1m14_214 (by decide) ?_
                  have hup : gr_up n R cs true = some 0 := if_neg (by simp)
                  have hfi : gr_find R n (gr_w cs 3) = some i99 := q97
                  have hse : gr_find R n (gr_w cs 4) = none := q455
                  have hhd : gr_hd n R cs true 3 (some 0) (some i99) (none) = .inl (-4) := by rw [gr_hd_s, if_neg (by simp; omega), if_neg (by rw [q503]; simp), if_pos (Or.inr (Or.inr (Or.inl (e540.symm.trans q541))))]
                  have hg : gr_dc n R cs true (if true = true then 3 else 4) = ((-4), n, R) := by show gr_dc n R cs true 3 = _; unfold gr_dc; rw [hup, hfi, hse, hhd]
                  exact pd_iret (v := (-4)) X w ⟨by rw [hg], pd_kx.mono (us := [6, 7, 8, 9, 10]) (pd_kx.tr (pd_kx.tr (k31) (k64)) (k467)) (by simp), A, (by rw [hg]; exact ⟨lb, cl, me, ru, bk, f478, hz_x, f487, f488, f489, f490, f491, ht60⟩)⟩ (by decide) (by decide) d_p1m14_216
                · -- not taken: 209
                  refine lv_iload hx hb d_p1m14_209 (lv_at hl 0 rfl) ?_
                  refine pd_zeq (tgt := 217) hx hb d_p1m14_211 (by decide) (by decide) (fun _ => ?_) (fun q => absurd q (by decide))
                  refine lv_aload_n hx hb d_p1m14_217 rfl (lv_at hl 8 rfl) ?_
                  refine pd_get X w f478 rfl 1 (by decide) mT_368 rfl rfl d_p1m14_218 ?_
                  refine lv_aload_n hx hb d_p1m14_221 rfl (lv_at hl 9 rfl) ?_
                  refine lv_iconst (v := nI 1) hx hb d_p1m14_222 (by decide) ?_
                  refine pd_cV (a := y) (As := [.int (nI 1)]) (rest := [.ref cl]) X w f480 rfl (c_Line_word l G h465 (by assumption) (by omega)) ok_Line_word ⟨mT_574, mT_575⟩ mT_573 ⟨by decide, by decide⟩ rfl hl.1 rfl (Nat.le_of_ble_eq_true rfl) d_p1m14_223 ⟨by decide, by decide⟩ (fun r543 h544 H locs hp545 w => ?_)
                  refine W.widen (k := 8) (n := 256) (by decide) (by decide) ?_
                  obtain ⟨k546, ds547, e548, f549⟩ := hp545
                  have f557 := k546 _ _ f478 List.not_mem_nil
                  have f558 := k546 _ _ f479 List.not_mem_nil
                  have f559 := k546 _ _ f480 List.not_mem_nil
                  have f560 := k546 _ _ f481 List.not_mem_nil
                  have f561 := k546 _ _ f482 List.not_mem_nil
                  have f562 := k546 _ _ f483 List.not_mem_nil
                  have f563 := k546 _ _ f473 List.not_mem_nil
                  have f564 := k546 _ _ f512 List.not_mem_nil
                  have f565 := k546 _ _ f517 List.not_mem_nil
                  have f566 := k546 _ _ f525 List.not_mem_nil
                  have f567 := k546 _ _ f484 List.not_mem_nil
                  have f568 := k546 _ _ f485 List.not_mem_nil
                  have f569 := k546 _ _ f486 List.not_mem_nil
                  have f570 := k546 _ _ f474 List.not_mem_nil
                  have f571 := k546 _ _ f518 List.not_mem_nil
                  have f572 := f487.kx k546 List.not_mem_nil List.not_mem_nil
                  have f573 := f488.kx k546 List.not_mem_nil List.not_mem_nil List.not_mem_nil
                  have f574 := f489.kx k546 List.not_mem_nil List.not_mem_nil List.not_mem_nil
                  have f575 := f490.kx k546 List.not_mem_nil List.not_mem_nil List.not_mem_nil
                  have f576 := f491.kx k546 List.not_mem_nil List.not_mem_nil List.not_mem_nil List.not_mem_nil List.not_mem_nil
                  have f577 := f492.kx k546 List.not_mem_nil
                  have f578 := f493.kx k546 List.not_mem_nil
                  have f579 := f494.kx k546 List.not_mem_nil
                  have f580 := f495.kx k546 List.not_mem_nil
                  have f581 := f496.kx k546 List.not_mem_nil
                  have f582 := f497.kx k546 List.not_mem_nil
                  have f583 := f498.kx k546 List.not_mem_nil
                  have f584 := f470.kx k546 List.not_mem_nil
                  have f585 := f513.kx k546 List.not_mem_nil
                  have f586 := f514.kx k546 List.not_mem_nil List.not_mem_nil List.not_mem_nil
                  obtain ⟨v550, g551, f552, f553, gf554, gc555, gl556⟩ := id f549
                  subst e548
                  refine lv_iload_n hx hb d_p1m14_226 rfl (lv_at hl 10 rfl) ?_
                  refine lv_aload hx hb d_p1m14_227 (lv_at hl 5 rfl) ?_
                  refine lv_aload hx hb d_p1m14_229 (lv_at hl 4 rfl) ?_
                  refine lv_aloadN hx hb d_p1m14_231 (lv_at hl 3 rfl) ?_
                  refine pd_cV (a := cl) (As := [.ref r543, .int (nI 1), .ref (A 0), .ref (A i99), .null]) (rest := []) X w f558 rfl (c_Classes_add l G h544 (A := A) (n := n) (R := R) (bi := true) (ab := some 0) (fi := some i99) (se := none) (by assumption) (by assumption) (fun t ht => by cases ht; omega) (fun t ht => by cases ht; omega) (fun t ht => by cases ht)) ok_Classes_add ⟨mT_781, mT_782⟩ mT_780 ⟨by decide, by decide⟩ rfl hl.1 rfl (Nat.le_of_ble_eq_true rfl) d_p1m14_233 ⟨by decide, by decide⟩ (fun r587 h588 H locs hp589 w => ?_)
                  refine W.widen (k := 38) (n := 688) (by decide) (by decide) ?_
                  obtain ⟨k590, e591, A592, ag593, f594⟩ := hp589
                  have f595 := k590 _ _ f557 (show (5 : Nat) ∉ [6, 7, 8, 9, 10] by decide)
                  have f596 := k590 _ _ f559 (show (0 : Nat) ∉ [6, 7, 8, 9, 10] by decide)
                  have f597 := k590 _ _ f560 (show (0 : Nat) ∉ [6, 7, 8, 9, 10] by decide)
                  have f598 := k590 _ _ f561 (show (0 : Nat) ∉ [6, 7, 8, 9, 10] by decide)
                  have f599 := k590 _ _ f562 (show (0 : Nat) ∉ [6, 7, 8, 9, 10] by decide)
                  have f600 := k590 _ _ f563 (show (0 : Nat) ∉ [6, 7, 8, 9, 10] by decide)
                  have f601 := k590 _ _ f564 (show (0 : Nat) ∉ [6, 7, 8, 9, 10] by decide)
                  have f602 := k590 _ _ f565 (show (0 : Nat) ∉ [6, 7, 8, 9, 10] by decide)
                  have f603 := k590 _ _ f566 (show (0 : Nat) ∉ [6, 7, 8, 9, 10] by decide)
                  have f604 := k590 _ _ f552 (show (0 : Nat) ∉ [6, 7, 8, 9, 10] by decide)
                  have f605 := k590 _ _ f567 (show (0 : Nat) ∉ [6, 7, 8, 9, 10] by decide)
                  have f606 := k590 _ _ f568 (show (0 : Nat) ∉ [6, 7, 8, 9, 10] by decide)
                  have f607 := k590 _ _ f569 (show (0 : Nat) ∉ [6, 7, 8, 9, 10] by decide)
                  have f608 := k590 _ _ f570 (show (0 : Nat) ∉ [6, 7, 8, 9, 10] by decide)
                  have f609 := k590 _ _ f571 (show (0 : Nat) ∉ [6, 7, 8, 9, 10] by decide)
                  have f610 := k590 _ _ f553 (show (0 : Nat) ∉ [6, 7, 8, 9, 10] by decide)
                  have f611 := f572.kx k590 (show (1 : Nat) ∉ [6, 7, 8, 9, 10] by decide) (show (2 : Nat) ∉ [6, 7, 8, 9, 10] by decide)
                  have f612 := f574.kx k590 (show (11 : Nat) ∉ [6, 7, 8, 9, 10] by decide) (show (12 : Nat) ∉ [6, 7, 8, 9, 10] by decide) (show (0 : Nat) ∉ [6, 7, 8, 9, 10] by decide)
                  have f613 := f575.kx k590 (show (13 : Nat) ∉ [6, 7, 8, 9, 10] by decide) (show (14 : Nat) ∉ [6, 7, 8, 9, 10] by decide) (show (0 : Nat) ∉ [6, 7, 8, 9, 10] by decide)
                  have f614 := f576.kx k590 (show (15 : Nat) ∉ [6, 7, 8, 9, 10] by decide) (show (16 : Nat) ∉ [6, 7, 8, 9, 10] by decide) (show (17 : Nat) ∉ [6, 7, 8, 9, 10] by decide) (show (3 : Nat) ∉ [6, 7, 8, 9, 10] by decide) (show (4 : Nat) ∉ [6, 7, 8, 9, 10] by decide)
                  have f615 := f578.kx k590 (show (0 : Nat) ∉ [6, 7, 8, 9, 10] by decide)
                  have f616 := f579.kx k590 (show (0 : Nat) ∉ [6, 7, 8, 9, 10] by decide)
                  have f617 := f580.kx k590 (show (0 : Nat) ∉ [6, 7, 8, 9, 10] by decide)
                  have f618 := f581.kx k590 (show (0 : Nat) ∉ [6, 7, 8, 9, 10] by decide)
                  have f619 := f582.kx k590 (show (0 : Nat) ∉ [6, 7, 8, 9, 10] by decide)
                  have f620 := f583.kx k590 (show (0 : Nat) ∉ [6, 7, 8, 9, 10] by decide)
                  have f621 := f584.kx k590 (show (0 : Nat) ∉ [6, 7, 8, 9, 10] by decide)
                  have f622 := f585.kx k590 (show (0 : Nat) ∉ [6, 7, 8, 9, 10] by decide)
                  have f623 := f586.kx k590 (show (0 : Nat) ∉ [6, 7, 8, 9, 10] by decide) (show (0 : Nat) ∉ [6, 7, 8, 9, 10] by decide) (show (0 : Nat) ∉ [6, 7, 8, 9, 10] by decide)
                  have f624 := f549.kx k590 (show (0 : Nat) ∉ [6, 7, 8, 9, 10] by decide)
                  have hup : gr_up n R cs true = some 0 := if_neg (by simp)
                  have hfi : gr_find R n (gr_w cs 3) = some i99 := q97
                  have hse : gr_find R n (gr_w cs 4) = none := q455
                  have hhd : gr_hd n R cs true 3 (some 0) (some i99) (none) = .inr 0 := by rw [gr_hd_s, if_neg (by simp; omega), if_neg (by rw [q503]; simp), if_neg (fun h9 => by rcases h9 with h9 | h9 | h9 | h9; rw [q531] at h9; cases h9; rw [← e535, q536] at h9; cases h9; rw [← e540, q541] at h9; cases h9; exact absurd h9.2 (by simp))]
                  have hg : gr_dc n R cs true (if true = true then 3 else 4) = gr_cadd n R (gr_row R n (gr_w cs 1) true (some 0) (some i99) (none)) := by show gr_dc n R cs true 3 = _; unfold gr_dc; rw [hup, hfi, hse, hhd]
                  exact pd_iret (v := r587) X w ⟨by rw [hg]; exact e591, pd_kx.tr (pd_kx.mono (us := [6, 7, 8, 9, 10]) (pd_kx.tr (pd_kx.tr (pd_kx.tr (k31) (k64)) (k467)) (k546)) (by simp)) (k590), A592, (by rw [hg]; exact ⟨lb, cl, me, ru, bk, f595, hz_x, f611, f594, (pd_Mems.ag f612 ag593 gr_cadd_le), f613, f614, ht60⟩)⟩ (by decide) (by decide) d_p1m14_236
          · -- some
            refine pd_top (v' := .ref (A i505)) (by rw [q506]; rfl) ?_
            have hl : lv_has ls 11 [(9, .int (nI 0)), (8, .int (nI 0)), (7, .null), (6, .ref (A i99)), (5, .ref (A 0)), (4, .int (nI 0)), (3, .int (nI 3)), (0, .ref x), (1, .ref y), (2, .int (nI 1))] := hl
            have i505lt := gr_fi_lt q503
            refine lv_ifnull hx hb d_p1m14_160 ?_
            refine lv_bipush (v := -3) hx hb d_p1m14_163 (by decide) ?_
            have hup : gr_up n R cs true = some 0 := if_neg (by simp)
            have hfi : gr_find R n (gr_w cs 3) = some i99 := q97
            have hse : gr_find R n (gr_w cs 4) = none := q455
            have hhd : gr_hd n R cs true 3 (some 0) (some i99) (none) = .inl (-3) := by rw [gr_hd_s, if_neg (by simp; omega), if_pos (by rw [q503]; simp)]
            have hg : gr_dc n R cs true (if true = true then 3 else 4) = ((-3), n, R) := by show gr_dc n R cs true 3 = _; unfold gr_dc; rw [hup, hfi, hse, hhd]
            exact pd_iret (v := (-3)) X w ⟨by rw [hg], pd_kx.mono (us := [6, 7, 8, 9, 10]) (pd_kx.tr (pd_kx.tr (k31) (k64)) (k467)) (by simp), A, (by rw [hg]; exact ⟨lb, cl, me, ru, bk, f478, hz_x, f487, f488, f489, f490, f491, ht60⟩)⟩ (by decide) (by decide) d_p1m14_165
        · -- not taken: 123
          refine lv_iconst (v := nI 1) hx hb d_p1m14_123 (by decide) ?_
          refine lv_goto (tgt := 128) hx hb d_p1m14_124 (by decide) ?_
          refine lv_istore (lv' := [(9, .int (nI 1)), (8, .int (nI 0)), (7, .null), (6, .ref (A i99)), (5, .ref (A 0)), (4, .int (nI 0)), (3, .int (nI 3)), (0, .ref x), (1, .ref y), (2, .int (nI 1))]) hx hb d_p1m14_128 hl (by decide) rfl (fun ls hl => ?_)
          refine lv_aload hx hb d_p1m14_130 (lv_at hl 4 rfl) ?_
          refine lv_ifnull hx hb d_p1m14_132 ?_
          refine lv_iload hx hb d_p1m14_135 (lv_at hl 1 rfl) ?_
          refine pd_zne (tgt := 145) hx hb d_p1m14_137 (by decide) (by decide) (fun q => absurd q (by decide)) (fun _ => ?_)
          refine lv_iload hx hb d_p1m14_140 (lv_at hl 0 rfl) ?_
          refine pd_zeq (tgt := 148) hx hb d_p1m14_142 (by decide) (by decide) (fun q => absurd q (by decide)) (fun _ => ?_)
          refine lv_bipush (v := -2) hx hb d_p1m14_145 (by decide) ?_
          have hup : gr_up n R cs true = some 0 := if_neg (by simp)
          have hfi : gr_find R n (gr_w cs 3) = some i99 := q97
          have hse : gr_find R n (gr_w cs 4) = none := q455
          have hhd : gr_hd n R cs true 3 (some 0) (some i99) (none) = .inl (-2) := by rw [gr_hd_s, if_pos (by simp; omega)]
          have hg : gr_dc n R cs true (if true = true then 3 else 4) = ((-2), n, R) := by show gr_dc n R cs true 3 = _; unfold gr_dc; rw [hup, hfi, hse, hhd]
          exact pd_iret (v := (-2)) X w ⟨by rw [hg], pd_kx.mono (us := [6, 7, 8, 9, 10]) (pd_kx.tr (k31) (k64)) (by simp), A, (by rw [hg]; exact ⟨lb, cl, me, ru, bk, f75, hz_x, f82, f83, f84, f85, f86, ht60⟩)⟩ (by decide) (by decide) d_p1m14_147
      · -- some
        refine pd_top (v' := .ref (A i457)) (by rw [q458]; rfl) ?_
        rw [q458] at hl
        have hl : lv_has ls 11 [(8, .int (nI 0)), (7, .ref (A i457)), (6, .ref (A i99)), (5, .ref (A 0)), (4, .int (nI 0)), (3, .int (nI 3)), (0, .ref x), (1, .ref y), (2, .int (nI 1))] := hl
        have i457lt := gr_fi_lt q455
        refine lv_ifnonnull (tgt := 127) hx hb d_p1m14_110 (by decide) ?_
        refine lv_iconst (v := nI 0) hx hb d_p1m14_127 (by decide) ?_
        refine lv_istore (lv' := [(9, .int (nI 0)), (8, .int (nI 0)), (7, .ref (A i457)), (6, .ref (A i99)), (5, .ref (A 0)), (4, .int (nI 0)), (3, .int (nI 3)), (0, .ref x), (1, .ref y), (2, .int (nI 1))]) hx hb d_p1m14_128 hl (by decide) rfl (fun ls hl => ?_)
        refine lv_aload hx hb d_p1m14_130 (lv_at hl 4 rfl) ?_
        refine lv_ifnull hx hb d_p1m14_132 ?_
        refine lv_iload hx hb d_p1m14_135 (lv_at hl 1 rfl) ?_
        refine pd_zne (tgt := 145) hx hb d_p1m14_137 (by decide) (by decide) (fun q => absurd q (by decide)) (fun _ => ?_)
        refine lv_iload hx hb d_p1m14_140 (lv_at hl 0 rfl) ?_
        refine pd_zeq (tgt := 148) hx hb d_p1m14_142 (by decide) (by decide) (fun _ => ?_) (fun q => absurd q (by decide))
        refine lv_aload_n hx hb d_p1m14_148 rfl (lv_at hl 7 rfl) ?_
        refine pd_get X w f75 rfl 1 (by decide) mT_368 rfl rfl d_p1m14_149 ?_
        refine lv_aload_n hx hb d_p1m14_152 rfl (lv_at hl 8 rfl) ?_
        refine lv_iconst (v := nI 1) hx hb d_p1m14_153 (by decide) ?_
        refine pd_cV (a := y) (As := [.int (nI 1)]) (rest := [.ref cl]) X w f77 rfl (c_Line_word l G h62 (by assumption) (by omega)) ok_Line_word ⟨mT_574, mT_575⟩ mT_573 ⟨by decide, by decide⟩ rfl hl.1 rfl (Nat.le_of_ble_eq_true rfl) d_p1m14_154 ⟨by decide, by decide⟩ (fun r633 h634 H locs hp635 w => ?_)
        refine W.widen (k := 6) (n := 192) (by decide) (by decide) ?_
        obtain ⟨k636, ds637, e638, f639⟩ := hp635
        have f647 := k636 _ _ f75 List.not_mem_nil
        have f648 := k636 _ _ f76 List.not_mem_nil
        have f649 := k636 _ _ f77 List.not_mem_nil
        have f650 := k636 _ _ f78 List.not_mem_nil
        have f651 := k636 _ _ f79 List.not_mem_nil
        have f652 := k636 _ _ f70 List.not_mem_nil
        have f653 := k636 _ _ f80 List.not_mem_nil
        have f654 := k636 _ _ f81 List.not_mem_nil
        have f655 := k636 _ _ f71 List.not_mem_nil
        have f656 := f82.kx k636 List.not_mem_nil List.not_mem_nil
        have f657 := f83.kx k636 List.not_mem_nil List.not_mem_nil List.not_mem_nil
        have f658 := f84.kx k636 List.not_mem_nil List.not_mem_nil List.not_mem_nil
        have f659 := f85.kx k636 List.not_mem_nil List.not_mem_nil List.not_mem_nil
        have f660 := f86.kx k636 List.not_mem_nil List.not_mem_nil List.not_mem_nil List.not_mem_nil List.not_mem_nil
        have f661 := f87.kx k636 List.not_mem_nil
        have f662 := f88.kx k636 List.not_mem_nil
        have f663 := f89.kx k636 List.not_mem_nil
        have f664 := f90.kx k636 List.not_mem_nil
        have f665 := f91.kx k636 List.not_mem_nil
        have f666 := f92.kx k636 List.not_mem_nil
        have f667 := f67.kx k636 List.not_mem_nil
        obtain ⟨v640, g641, f642, f643, gf644, gc645, gl646⟩ := id f639
        subst e638
        refine pd_cV (a := cl) (As := [.ref r633]) (rest := []) X w f648 rfl (c_Classes_find l G h634 (by assumption) (by assumption)) ok_Classes_find ⟨mT_773, mT_774⟩ mT_772 ⟨by decide, by decide⟩ rfl hl.1 rfl (Nat.le_of_ble_eq_true rfl) d_p1m14_157 ⟨by decide, by decide⟩ (fun r668 h669 H locs hp670 w => ?_)
        refine W.widen (k := 6) (n := 192) (by decide) (by decide) ?_
        obtain ⟨e671, rfl⟩ := hp670
        rcases pd_om e671 with ⟨q672, q675⟩ | ⟨i674, q672, q675⟩
        · -- none
          refine pd_top (v' := .null) (by rw [q675]; rfl) ?_
          have hl : lv_has ls 11 [(9, .int (nI 0)), (8, .int (nI 0)), (7, .ref (A i457)), (6, .ref (A i99)), (5, .ref (A 0)), (4, .int (nI 0)), (3, .int (nI 3)), (0, .ref x), (1, .ref y), (2, .int (nI 1))] := hl
          refine lv_ifnullN (tgt := 166) hx hb d_p1m14_160 (by decide) ?_
          refine lv_aload hx hb d_p1m14_166 (lv_at hl 3 rfl) ?_
          refine lv_ifnull hx hb d_p1m14_168 ?_
          refine lv_aload hx hb d_p1m14_171 (lv_at hl 3 rfl) ?_
          refine lv_aload hx hb d_p1m14_173 (lv_at hl 2 rfl) ?_
          refine lv_acmp_ne (rx := (some (A i99))) (ry := (some (A i457))) (tgt := 182) hx hb d_p1m14_175 (by decide) (fun q678 => ?_) (fun q678 => ?_)
          · -- taken: 182
            refine lv_iconst (v := nI 0) hx hb d_p1m14_182 (by decide) ?_
            refine lv_istore (lv' := [(10, .int (nI 0)), (9, .int (nI 0)), (8, .int (nI 0)), (7, .ref (A i457)), (6, .ref (A i99)), (5, .ref (A 0)), (4, .int (nI 0)), (3, .int (nI 3)), (0, .ref x), (1, .ref y), (2, .int (nI 1))]) hx hb d_p1m14_183 hl (by decide) rfl (fun ls hl => ?_)
            refine lv_aload hx hb d_p1m14_185 (lv_at hl 5 rfl) ?_
            obtain ⟨nm679, fx680, f681, f682, f683⟩ := f661.1 0 (by omega)
            obtain ⟨v684, g685, f686, f687, gf688, gc689, gl690⟩ := id f682
            obtain ⟨v691, cap692, g693, f694, z695, z696, z697, z698, z699⟩ := id f683
            refine pd_get X w f681 rfl 2 (by decide) mT_260 rfl rfl d_p1m14_187 ?_
            refine pd_bne (tgt := 214) hx hb d_p1m14_190 (by decide) (fun q700 => ?_) (fun q700 => ?_)
            · -- taken: 214
              refine lv_bipush (v := -4) hx hb d_p1m14_214 (by decide) ?_
              have hup : gr_up n R cs true = some 0 := if_neg (by simp)
              have hfi : gr_find R n (gr_w cs 3) = some i99 := q97
              have hse : gr_find R n (gr_w cs 4) = some i457 := q455
              have hhd : gr_hd n R cs true 3 (some 0) (some i99) (some i457) = .inl (-4) := by rw [gr_hd_s, if_neg (by simp), if_neg (by rw [q672]; simp), if_pos (Or.inl q700)]
              have hg : gr_dc n R cs true (if true = true then 3 else 4) = ((-4), n, R) := by show gr_dc n R cs true 3 = _; unfold gr_dc; rw [hup, hfi, hse, hhd]
              exact pd_iret (v := (-4)) X w ⟨by rw [hg], pd_kx.mono (us := [6, 7, 8, 9, 10]) (pd_kx.tr (pd_kx.tr (k31) (k64)) (k636)) (by simp), A, (by rw [hg]; exact ⟨lb, cl, me, ru, bk, f647, hz_x, f656, f657, f658, f659, f660, ht60⟩)⟩ (by decide) (by decide) d_p1m14_216
            · -- not taken: 193
              refine lv_aload hx hb d_p1m14_193 (lv_at hl 4 rfl) ?_
              refine pd_cS (As := [.ref (A i99)]) (rest := []) X w (c_PolicyDesk_isPlainClass l G h634 (A := A) (n := n) (R := R) (o := some i99) (by assumption) (fun t ht => by cases ht; omega)) ok_PolicyDesk_isPlainClass mT_778 mT_777 ⟨by decide, by decide⟩ rfl hl.1 rfl (Nat.le_of_ble_eq_true rfl) d_p1m14_195 ⟨by decide, by decide⟩ (fun r701 h702 H locs hp703 w => ?_)
              refine W.widen (k := 6) (n := 192) (by decide) (by decide) ?_
              obtain ⟨e704, rfl⟩ := hp703
              refine pd_bne (tgt := 214) hx hb d_p1m14_198 (by decide) (fun q705 => ?_) (fun q705 => ?_)
              · -- taken: 214
                refine lv_bipush (v := -4) hx hb d_p1m14_214 (by decide) ?_
                have hup : gr_up n R cs true = some 0 := if_neg (by simp)
                have hfi : gr_find R n (gr_w cs 3) = some i99 := q97
                have hse : gr_find R n (gr_w cs 4) = some i457 := q455
                have hhd : gr_hd n R cs true 3 (some 0) (some i99) (some i457) = .inl (-4) := by rw [gr_hd_s, if_neg (by simp), if_neg (by rw [q672]; simp), if_pos (Or.inr (Or.inl (e704.symm.trans q705)))]
                have hg : gr_dc n R cs true (if true = true then 3 else 4) = ((-4), n, R) := by show gr_dc n R cs true 3 = _; unfold gr_dc; rw [hup, hfi, hse, hhd]
                exact pd_iret (v := (-4)) X w ⟨by rw [hg], pd_kx.mono (us := [6, 7, 8, 9, 10]) (pd_kx.tr (pd_kx.tr (k31) (k64)) (k636)) (by simp), A, (by rw [hg]; exact ⟨lb, cl, me, ru, bk, f647, hz_x, f656, f657, f658, f659, f660, ht60⟩)⟩ (by decide) (by decide) d_p1m14_216
              · -- not taken: 201
                refine lv_aload hx hb d_p1m14_201 (lv_at hl 3 rfl) ?_
                refine pd_cS (As := [.ref (A i457)]) (rest := []) X w (c_PolicyDesk_isPlainClass l G h634 (A := A) (n := n) (R := R) (o := some i457) (by assumption) (fun t ht => by cases ht; omega)) ok_PolicyDesk_isPlainClass mT_778 mT_777 ⟨by decide, by decide⟩ rfl hl.1 rfl (Nat.le_of_ble_eq_true rfl) d_p1m14_203 ⟨by decide, by decide⟩ (fun r706 h707 H locs hp708 w => ?_)
                refine W.widen (k := 6) (n := 192) (by decide) (by decide) ?_
                obtain ⟨e709, rfl⟩ := hp708
                refine pd_bne (tgt := 214) hx hb d_p1m14_206 (by decide) (fun q710 => ?_) (fun q710 => ?_)
                · -- taken: 214
                  refine lv_bipush (v := -4) hx hb d_p1m14_214 (by decide) ?_
                  have hup : gr_up n R cs true = some 0 := if_neg (by simp)
                  have hfi : gr_find R n (gr_w cs 3) = some i99 := q97
                  have hse : gr_find R n (gr_w cs 4) = some i457 := q455
                  have hhd : gr_hd n R cs true 3 (some 0) (some i99) (some i457) = .inl (-4) := by rw [gr_hd_s, if_neg (by simp), if_neg (by rw [q672]; simp), if_pos (Or.inr (Or.inr (Or.inl (e709.symm.trans q710))))]
                  have hg : gr_dc n R cs true (if true = true then 3 else 4) = ((-4), n, R) := by show gr_dc n R cs true 3 = _; unfold gr_dc; rw [hup, hfi, hse, hhd]
                  exact pd_iret (v := (-4)) X w ⟨by rw [hg], pd_kx.mono (us := [6, 7, 8, 9, 10]) (pd_kx.tr (pd_kx.tr (k31) (k64)) (k636)) (by simp), A, (by rw [hg]; exact ⟨lb, cl, me, ru, bk, f647, hz_x, f656, f657, f658, f659, f660, ht60⟩)⟩ (by decide) (by decide) d_p1m14_216
                · -- not taken: 209
                  refine lv_iload hx hb d_p1m14_209 (lv_at hl 0 rfl) ?_
                  refine pd_zeq (tgt := 217) hx hb d_p1m14_211 (by decide) (by decide) (fun _ => ?_) (fun q => absurd q (by decide))
                  refine lv_aload_n hx hb d_p1m14_217 rfl (lv_at hl 8 rfl) ?_
                  refine pd_get X w f647 rfl 1 (by decide) mT_368 rfl rfl d_p1m14_218 ?_
                  refine lv_aload_n hx hb d_p1m14_221 rfl (lv_at hl 9 rfl) ?_
                  refine lv_iconst (v := nI 1) hx hb d_p1m14_222 (by decide) ?_
                  refine pd_cV (a := y) (As := [.int (nI 1)]) (rest := [.ref cl]) X w f649 rfl (c_Line_word l G h634 (by assumption) (by omega)) ok_Line_word ⟨mT_574, mT_575⟩ mT_573 ⟨by decide, by decide⟩ rfl hl.1 rfl (Nat.le_of_ble_eq_true rfl) d_p1m14_223 ⟨by decide, by decide⟩ (fun r712 h713 H locs hp714 w => ?_)
                  refine W.widen (k := 8) (n := 256) (by decide) (by decide) ?_
                  obtain ⟨k715, ds716, e717, f718⟩ := hp714
                  have f726 := k715 _ _ f647 List.not_mem_nil
                  have f727 := k715 _ _ f648 List.not_mem_nil
                  have f728 := k715 _ _ f649 List.not_mem_nil
                  have f729 := k715 _ _ f650 List.not_mem_nil
                  have f730 := k715 _ _ f651 List.not_mem_nil
                  have f731 := k715 _ _ f652 List.not_mem_nil
                  have f732 := k715 _ _ f642 List.not_mem_nil
                  have f733 := k715 _ _ f681 List.not_mem_nil
                  have f734 := k715 _ _ f686 List.not_mem_nil
                  have f735 := k715 _ _ f694 List.not_mem_nil
                  have f736 := k715 _ _ f653 List.not_mem_nil
                  have f737 := k715 _ _ f654 List.not_mem_nil
                  have f738 := k715 _ _ f655 List.not_mem_nil
                  have f739 := k715 _ _ f643 List.not_mem_nil
                  have f740 := k715 _ _ f687 List.not_mem_nil
                  have f741 := f656.kx k715 List.not_mem_nil List.not_mem_nil
                  have f742 := f657.kx k715 List.not_mem_nil List.not_mem_nil List.not_mem_nil
                  have f743 := f658.kx k715 List.not_mem_nil List.not_mem_nil List.not_mem_nil
                  have f744 := f659.kx k715 List.not_mem_nil List.not_mem_nil List.not_mem_nil
                  have f745 := f660.kx k715 List.not_mem_nil List.not_mem_nil List.not_mem_nil List.not_mem_nil List.not_mem_nil
                  have f746 := f661.kx k715 List.not_mem_nil
                  have f747 := f662.kx k715 List.not_mem_nil
                  have f748 := f663.kx k715 List.not_mem_nil
                  have f749 := f664.kx k715 List.not_mem_nil
                  have f750 := f665.kx k715 List.not_mem_nil
                  have f751 := f666.kx k715 List.not_mem_nil
                  have f752 := f667.kx k715 List.not_mem_nil
                  have f753 := f639.kx k715 List.not_mem_nil
                  have f754 := f682.kx k715 List.not_mem_nil
                  have f755 := f683.kx k715 List.not_mem_nil List.not_mem_nil List.not_mem_nil
                  obtain ⟨v719, g720, f721, f722, gf723, gc724, gl725⟩ := id f718
                  subst e717
                  refine lv_iload_n hx hb d_p1m14_226 rfl (lv_at hl 10 rfl) ?_
                  refine lv_aload hx hb d_p1m14_227 (lv_at hl 5 rfl) ?_
                  refine lv_aload hx hb d_p1m14_229 (lv_at hl 4 rfl) ?_
                  refine lv_aload hx hb d_p1m14_231 (lv_at hl 3 rfl) ?_
                  refine pd_cV (a := cl) (As := [.ref r712, .int (nI 1), .ref (A 0), .ref (A i99), .ref (A i457)]) (rest := []) X w f727 rfl (c_Classes_add l G h713 (A := A) (n := n) (R := R) (bi := true) (ab := some 0) (fi := some i99) (se := some i457) (by assumption) (by assumption) (fun t ht => by cases ht; omega) (fun t ht => by cases ht; omega) (fun t ht => by cases ht; omega)) ok_Classes_add ⟨mT_781, mT_782⟩ mT_780 ⟨by decide, by decide⟩ rfl hl.1 rfl (Nat.le_of_ble_eq_true rfl) d_p1m14_233 ⟨by decide, by decide⟩ (fun r756 h757 H locs hp758 w => ?_)
                  refine W.widen (k := 38) (n := 688) (by decide) (by decide) ?_
                  obtain ⟨k759, e760, A761, ag762, f763⟩ := hp758
                  have f764 := k759 _ _ f726 (show (5 : Nat) ∉ [6, 7, 8, 9, 10] by decide)
                  have f765 := k759 _ _ f728 (show (0 : Nat) ∉ [6, 7, 8, 9, 10] by decide)
                  have f766 := k759 _ _ f729 (show (0 : Nat) ∉ [6, 7, 8, 9, 10] by decide)
                  have f767 := k759 _ _ f730 (show (0 : Nat) ∉ [6, 7, 8, 9, 10] by decide)
                  have f768 := k759 _ _ f731 (show (0 : Nat) ∉ [6, 7, 8, 9, 10] by decide)
                  have f769 := k759 _ _ f732 (show (0 : Nat) ∉ [6, 7, 8, 9, 10] by decide)
                  have f770 := k759 _ _ f733 (show (0 : Nat) ∉ [6, 7, 8, 9, 10] by decide)
                  have f771 := k759 _ _ f734 (show (0 : Nat) ∉ [6, 7, 8, 9, 10] by decide)
                  have f772 := k759 _ _ f735 (show (0 : Nat) ∉ [6, 7, 8, 9, 10] by decide)
                  have f773 := k759 _ _ f721 (show (0 : Nat) ∉ [6, 7, 8, 9, 10] by decide)
                  have f774 := k759 _ _ f736 (show (0 : Nat) ∉ [6, 7, 8, 9, 10] by decide)
                  have f775 := k759 _ _ f737 (show (0 : Nat) ∉ [6, 7, 8, 9, 10] by decide)
                  have f776 := k759 _ _ f738 (show (0 : Nat) ∉ [6, 7, 8, 9, 10] by decide)
                  have f777 := k759 _ _ f739 (show (0 : Nat) ∉ [6, 7, 8, 9, 10] by decide)
                  have f778 := k759 _ _ f740 (show (0 : Nat) ∉ [6, 7, 8, 9, 10] by decide)
                  have f779 := k759 _ _ f722 (show (0 : Nat) ∉ [6, 7, 8, 9, 10] by decide)
                  have f780 := f741.kx k759 (show (1 : Nat) ∉ [6, 7, 8, 9, 10] by decide) (show (2 : Nat) ∉ [6, 7, 8, 9, 10] by decide)
                  have f781 := f743.kx k759 (show (11 : Nat) ∉ [6, 7, 8, 9, 10] by decide) (show (12 : Nat) ∉ [6, 7, 8, 9, 10] by decide) (show (0 : Nat) ∉ [6, 7, 8, 9, 10] by decide)
                  have f782 := f744.kx k759 (show (13 : Nat) ∉ [6, 7, 8, 9, 10] by decide) (show (14 : Nat) ∉ [6, 7, 8, 9, 10] by decide) (show (0 : Nat) ∉ [6, 7, 8, 9, 10] by decide)
                  have f783 := f745.kx k759 (show (15 : Nat) ∉ [6, 7, 8, 9, 10] by decide) (show (16 : Nat) ∉ [6, 7, 8, 9, 10] by decide) (show (17 : Nat) ∉ [6, 7, 8, 9, 10] by decide) (show (3 : Nat) ∉ [6, 7, 8, 9, 10] by decide) (show (4 : Nat) ∉ [6, 7, 8, 9, 10] by decide)
                  have f784 := f747.kx k759 (show (0 : Nat) ∉ [6, 7, 8, 9, 10] by decide)
                  have f785 := f748.kx k759 (show (0 : Nat) ∉ [6, 7, 8, 9, 10] by decide)
                  have f786 := f749.kx k759 (show (0 : Nat) ∉ [6, 7, 8, 9, 10] by decide)
                  have f787 := f750.kx k759 (show (0 : Nat) ∉ [6, 7, 8, 9, 10] by decide)
                  have f788 := f751.kx k759 (show (0 : Nat) ∉ [6, 7, 8, 9, 10] by decide)
                  have f789 := f752.kx k759 (show (0 : Nat) ∉ [6, 7, 8, 9, 10] by decide)
                  have f790 := f753.kx k759 (show (0 : Nat) ∉ [6, 7, 8, 9, 10] by decide)
                  have f791 := f754.kx k759 (show (0 : Nat) ∉ [6, 7, 8, 9, 10] by decide)
                  have f792 := f755.kx k759 (show (0 : Nat) ∉ [6, 7, 8, 9, 10] by decide) (show (0 : Nat) ∉ [6, 7, 8, 9, 10] by decide) (show (0 : Nat) ∉ [6, 7, 8, 9, 10] by decide)
                  have f793 := f718.kx k759 (show (0 : Nat) ∉ [6, 7, 8, 9, 10] by decide)
                  have hup : gr_up n R cs true = some 0 := if_neg (by simp)
                  have hfi : gr_find R n (gr_w cs 3) = some i99 := q97
                  have hse : gr_find R n (gr_w cs 4) = some i457 := q455
                  have hhd : gr_hd n R cs true 3 (some 0) (some i99) (some i457) = .inr 0 := by rw [gr_hd_s, if_neg (by simp), if_neg (by rw [q672]; simp), if_neg (fun h9 => by rcases h9 with h9 | h9 | h9 | h9; rw [q700] at h9; cases h9; rw [← e704, q705] at h9; cases h9; rw [← e709, q710] at h9; cases h9; exact q678 (by rw [Option.some.inj h9.2]))]
                  have hg : gr_dc n R cs true (if true = true then 3 else 4) = gr_cadd n R (gr_row R n (gr_w cs 1) true (some 0) (some i99) (some i457)) := by show gr_dc n R cs true 3 = _; unfold gr_dc; rw [hup, hfi, hse, hhd]
                  exact pd_iret (v := r756) X w ⟨by rw [hg]; exact e760, pd_kx.tr (pd_kx.mono (us := [6, 7, 8, 9, 10]) (pd_kx.tr (pd_kx.tr (pd_kx.tr (k31) (k64)) (k636)) (k715)) (by simp)) (k759), A761, (by rw [hg]; exact ⟨lb, cl, me, ru, bk, f764, hz_x, f780, f763, (pd_Mems.ag f781 ag762 gr_cadd_le), f782, f783, ht60⟩)⟩ (by decide) (by decide) d_p1m14_236
          · -- not taken: 178
            refine lv_iconst (v := nI 1) hx hb d_p1m14_178 (by decide) ?_
            refine lv_goto (tgt := 183) hx hb d_p1m14_179 (by decide) ?_
            refine lv_istore (lv' := [(10, .int (nI 1)), (9, .int (nI 0)), (8, .int (nI 0)), (7, .ref (A i457)), (6, .ref (A i99)), (5, .ref (A 0)), (4, .int (nI 0)), (3, .int (nI 3)), (0, .ref x), (1, .ref y), (2, .int (nI 1))]) hx hb d_p1m14_183 hl (by decide) rfl (fun ls hl => ?_)
            refine lv_aload hx hb d_p1m14_185 (lv_at hl 5 rfl) ?_
            obtain ⟨nm794, fx795, f796, f797, f798⟩ := f661.1 0 (by omega)
            obtain ⟨v799, g800, f801, f802, gf803, gc804, gl805⟩ := id f797
            obtain ⟨v806, cap807, g808, f809, z810, z811, z812, z813, z814⟩ := id f798
            refine pd_get X w f796 rfl 2 (by decide) mT_260 rfl rfl d_p1m14_187 ?_
            refine pd_bne (tgt := 214) hx hb d_p1m14_190 (by decide) (fun q815 => ?_) (fun q815 => ?_)
            · -- taken: 214
              refine lv_bipush (v := -4) hx hb d_p1m14_214 (by decide) ?_
              have hup : gr_up n R cs true = some 0 := if_neg (by simp)
              have hfi : gr_find R n (gr_w cs 3) = some i99 := q97
              have hse : gr_find R n (gr_w cs 4) = some i457 := q455
              have hhd : gr_hd n R cs true 3 (some 0) (some i99) (some i457) = .inl (-4) := by rw [gr_hd_s, if_neg (by simp), if_neg (by rw [q672]; simp), if_pos (Or.inl q815)]
              have hg : gr_dc n R cs true (if true = true then 3 else 4) = ((-4), n, R) := by show gr_dc n R cs true 3 = _; unfold gr_dc; rw [hup, hfi, hse, hhd]
              exact pd_iret (v := (-4)) X w ⟨by rw [hg], pd_kx.mono (us := [6, 7, 8, 9, 10]) (pd_kx.tr (pd_kx.tr (k31) (k64)) (k636)) (by simp), A, (by rw [hg]; exact ⟨lb, cl, me, ru, bk, f647, hz_x, f656, f657, f658, f659, f660, ht60⟩)⟩ (by decide) (by decide) d_p1m14_216
            · -- not taken: 193
              refine lv_aload hx hb d_p1m14_193 (lv_at hl 4 rfl) ?_
              refine pd_cS (As := [.ref (A i99)]) (rest := []) X w (c_PolicyDesk_isPlainClass l G h634 (A := A) (n := n) (R := R) (o := some i99) (by assumption) (fun t ht => by cases ht; omega)) ok_PolicyDesk_isPlainClass mT_778 mT_777 ⟨by decide, by decide⟩ rfl hl.1 rfl (Nat.le_of_ble_eq_true rfl) d_p1m14_195 ⟨by decide, by decide⟩ (fun r816 h817 H locs hp818 w => ?_)
              refine W.widen (k := 6) (n := 192) (by decide) (by decide) ?_
              obtain ⟨e819, rfl⟩ := hp818
              refine pd_bne (tgt := 214) hx hb d_p1m14_198 (by decide) (fun q820 => ?_) (fun q820 => ?_)
              · -- taken: 214
                refine lv_bipush (v := -4) hx hb d_p1m14_214 (by decide) ?_
                have hup : gr_up n R cs true = some 0 := if_neg (by simp)
                have hfi : gr_find R n (gr_w cs 3) = some i99 := q97
                have hse : gr_find R n (gr_w cs 4) = some i457 := q455
                have hhd : gr_hd n R cs true 3 (some 0) (some i99) (some i457) = .inl (-4) := by rw [gr_hd_s, if_neg (by simp), if_neg (by rw [q672]; simp), if_pos (Or.inr (Or.inl (e819.symm.trans q820)))]
                have hg : gr_dc n R cs true (if true = true then 3 else 4) = ((-4), n, R) := by show gr_dc n R cs true 3 = _; unfold gr_dc; rw [hup, hfi, hse, hhd]
                exact pd_iret (v := (-4)) X w ⟨by rw [hg], pd_kx.mono (us := [6, 7, 8, 9, 10]) (pd_kx.tr (pd_kx.tr (k31) (k64)) (k636)) (by simp), A, (by rw [hg]; exact ⟨lb, cl, me, ru, bk, f647, hz_x, f656, f657, f658, f659, f660, ht60⟩)⟩ (by decide) (by decide) d_p1m14_216
              · -- not taken: 201
                refine lv_aload hx hb d_p1m14_201 (lv_at hl 3 rfl) ?_
                refine pd_cS (As := [.ref (A i457)]) (rest := []) X w (c_PolicyDesk_isPlainClass l G h634 (A := A) (n := n) (R := R) (o := some i457) (by assumption) (fun t ht => by cases ht; omega)) ok_PolicyDesk_isPlainClass mT_778 mT_777 ⟨by decide, by decide⟩ rfl hl.1 rfl (Nat.le_of_ble_eq_true rfl) d_p1m14_203 ⟨by decide, by decide⟩ (fun r821 h822 H locs hp823 w => ?_)
                refine W.widen (k := 6) (n := 192) (by decide) (by decide) ?_
                obtain ⟨e824, rfl⟩ := hp823
                refine pd_bne (tgt := 214) hx hb d_p1m14_206 (by decide) (fun q825 => ?_) (fun q825 => ?_)
                · -- taken: 214
                  refine lv_bipush (v := -4) hx hb d_p1m14_214 (by decide) ?_
                  have hup : gr_up n R cs true = some 0 := if_neg (by simp)
                  have hfi : gr_find R n (gr_w cs 3) = some i99 := q97
                  have hse : gr_find R n (gr_w cs 4) = some i457 := q455
                  have hhd : gr_hd n R cs true 3 (some 0) (some i99) (some i457) = .inl (-4) := by rw [gr_hd_s, if_neg (by simp), if_neg (by rw [q672]; simp), if_pos (Or.inr (Or.inr (Or.inl (e824.symm.trans q825))))]
                  have hg : gr_dc n R cs true (if true = true then 3 else 4) = ((-4), n, R) := by show gr_dc n R cs true 3 = _; unfold gr_dc; rw [hup, hfi, hse, hhd]
                  exact pd_iret (v := (-4)) X w ⟨by rw [hg], pd_kx.mono (us := [6, 7, 8, 9, 10]) (pd_kx.tr (pd_kx.tr (k31) (k64)) (k636)) (by simp), A, (by rw [hg]; exact ⟨lb, cl, me, ru, bk, f647, hz_x, f656, f657, f658, f659, f660, ht60⟩)⟩ (by decide) (by decide) d_p1m14_216
                · -- not taken: 209
                  refine lv_iload hx hb d_p1m14_209 (lv_at hl 0 rfl) ?_
                  refine pd_zeq (tgt := 217) hx hb d_p1m14_211 (by decide) (by decide) (fun q => absurd q (by decide)) (fun _ => ?_)
                  refine lv_bipush (v := -4) hx hb d_p1m14_214 (by decide) ?_
                  have hup : gr_up n R cs true = some 0 := if_neg (by simp)
                  have hfi : gr_find R n (gr_w cs 3) = some i99 := q97
                  have hse : gr_find R n (gr_w cs 4) = some i457 := q455
                  have hhd : gr_hd n R cs true 3 (some 0) (some i99) (some i457) = .inl (-4) := by rw [gr_hd_s, if_neg (by simp), if_neg (by rw [q672]; simp), if_pos (Or.inr (Or.inr (Or.inr ⟨by simp, congrArg some (hAi _ _ i99lt i457lt (Option.some.inj q678))⟩)))]
                  have hg : gr_dc n R cs true (if true = true then 3 else 4) = ((-4), n, R) := by show gr_dc n R cs true 3 = _; unfold gr_dc; rw [hup, hfi, hse, hhd]
                  exact pd_iret (v := (-4)) X w ⟨by rw [hg], pd_kx.mono (us := [6, 7, 8, 9, 10]) (pd_kx.tr (pd_kx.tr (k31) (k64)) (k636)) (by simp), A, (by rw [hg]; exact ⟨lb, cl, me, ru, bk, f647, hz_x, f656, f657, f658, f659, f660, ht60⟩)⟩ (by decide) (by decide) d_p1m14_216
        · -- some
          refine pd_top (v' := .ref (A i674)) (by rw [q675]; rfl) ?_
          have hl : lv_has ls 11 [(9, .int (nI 0)), (8, .int (nI 0)), (7, .ref (A i457)), (6, .ref (A i99)), (5, .ref (A 0)), (4, .int (nI 0)), (3, .int (nI 3)), (0, .ref x), (1, .ref y), (2, .int (nI 1))] := hl
          have i674lt := gr_fi_lt q672
          refine lv_ifnull hx hb d_p1m14_160 ?_
          refine lv_bipush (v := -3) hx hb d_p1m14_163 (by decide) ?_
          have hup : gr_up n R cs true = some 0 := if_neg (by simp)
          have hfi : gr_find R n (gr_w cs 3) = some i99 := q97
          have hse : gr_find R n (gr_w cs 4) = some i457 := q455
          have hhd : gr_hd n R cs true 3 (some 0) (some i99) (some i457) = .inl (-3) := by rw [gr_hd_s, if_neg (by simp), if_pos (by rw [q672]; simp)]
          have hg : gr_dc n R cs true (if true = true then 3 else 4) = ((-3), n, R) := by show gr_dc n R cs true 3 = _; unfold gr_dc; rw [hup, hfi, hse, hhd]
          exact pd_iret (v := (-3)) X w ⟨by rw [hg], pd_kx.mono (us := [6, 7, 8, 9, 10]) (pd_kx.tr (pd_kx.tr (k31) (k64)) (k636)) (by simp), A, (by rw [hg]; exact ⟨lb, cl, me, ru, bk, f647, hz_x, f656, f657, f658, f659, f660, ht60⟩)⟩ (by decide) (by decide) d_p1m14_165
  · -- False
    subst q0
    have hl : lv_has ls 11 [(0, .ref x), (1, .ref y), (2, .int (nI 0))] := hl
    refine lv_iload_n hx hb d_p1m14_0 rfl (lv_at hl 2 rfl) ?_
    refine pd_zeq (tgt := 8) hx hb d_p1m14_1 (by decide) (by decide) (fun _ => ?_) (fun q => absurd q (by decide))
    refine lv_iconst (v := nI 4) hx hb d_p1m14_8 (by decide) ?_
    refine lv_istore_n (lv' := [(3, .int (nI 4)), (0, .ref x), (1, .ref y), (2, .int (nI 0))]) hx hb d_p1m14_9 rfl hl (by decide) rfl (fun ls hl => ?_)
    refine lv_iload_n hx hb d_p1m14_10 rfl (lv_at hl 3 rfl) ?_
    refine pd_zne (tgt := 26) hx hb d_p1m14_11 (by decide) (by decide) (fun q => absurd q (by decide)) (fun _ => ?_)
    refine lv_aload_n hx hb d_p1m14_14 rfl (lv_at hl 2 rfl) ?_
    obtain ⟨a830, st831, fA832, f833, f834, nu835, f836⟩ := id hL
    have hc837 := (gr_cut_ok cs).1
    obtain ⟨v838, g839, f840, f841, gf842, gc843, gl844⟩ := id f836
    refine pd_get X w f833 rfl 1 (by decide) mT_544 rfl rfl d_p1m14_15 ?_
    refine lv_iconst (v := nI 3) hx hb d_p1m14_18 (by decide) ?_
    refine pd_jle (tgt := 26) hx hb d_p1m14_19 (by decide) (by omega) (by omega) (fun q845 => ?_) (fun q845 => ?_)
    · -- taken: 26
      refine lv_iconst (v := nI 0) hx hb d_p1m14_26 (by decide) ?_
      refine lv_istore (lv' := [(4, .int (nI 0)), (3, .int (nI 4)), (0, .ref x), (1, .ref y), (2, .int (nI 0))]) hx hb d_p1m14_27 hl (by decide) rfl (fun ls hl => ?_)
      refine lv_iload hx hb d_p1m14_29 (lv_at hl 0 rfl) ?_
      refine pd_zeq (tgt := 49) hx hb d_p1m14_31 (by decide) (by decide) (fun _ => ?_) (fun q => absurd q (by decide))
      refine lv_aload_n hx hb d_p1m14_49 rfl (lv_at hl 2 rfl) ?_
      refine pd_get X w hx0 rfl 1 (by decide) mT_368 rfl rfl d_p1m14_50 ?_
      obtain ⟨ar847, g848, f849, f850, g851, hz852, hz853, z854, f855⟩ := id hC
      refine pd_get X w f849 rfl 0 (by decide) mT_295 rfl rfl d_p1m14_53 ?_
      refine lv_astore (lv' := [(5, .ref (A 0)), (4, .int (nI 0)), (3, .int (nI 4)), (0, .ref x), (1, .ref y), (2, .int (nI 0))]) hx hb d_p1m14_56 hl (by decide) rfl (fun ls hl => ?_)
      refine lv_aload_n hx hb d_p1m14_58 rfl (lv_at hl 3 rfl) ?_
      refine pd_get X w hx0 rfl 1 (by decide) mT_368 rfl rfl d_p1m14_59 ?_
      refine lv_aload_n hx hb d_p1m14_62 rfl (lv_at hl 4 rfl) ?_
      refine lv_iload_n hx hb d_p1m14_63 rfl (lv_at hl 2 rfl) ?_
      refine pd_cV (a := y) (As := [.int (nI 4)]) (rest := [.ref cl]) X w f833 rfl (c_Line_word l G h (by assumption) (by omega)) ok_Line_word ⟨mT_574, mT_575⟩ mT_573 ⟨by decide, by decide⟩ rfl hl.1 rfl (Nat.le_of_ble_eq_true rfl) d_p1m14_64 ⟨by decide, by decide⟩ (fun r856 h857 H locs hp858 w => ?_)
      refine W.widen (k := 2) (n := 64) (by decide) (by decide) ?_
      obtain ⟨k859, ds860, e861, f862⟩ := hp858
      have f870 := k859 _ _ hx0 List.not_mem_nil
      have f871 := k859 _ _ f833 List.not_mem_nil
      have f872 := k859 _ _ f840 List.not_mem_nil
      have f873 := k859 _ _ f849 List.not_mem_nil
      have f874 := k859 _ _ f841 List.not_mem_nil
      have f875 := hsb.kx k859 List.not_mem_nil List.not_mem_nil
      have f876 := hC.kx k859 List.not_mem_nil List.not_mem_nil List.not_mem_nil
      have f877 := hM.kx k859 List.not_mem_nil List.not_mem_nil List.not_mem_nil
      have f878 := hU.kx k859 List.not_mem_nil List.not_mem_nil List.not_mem_nil
      have f879 := hA.kx k859 List.not_mem_nil List.not_mem_nil List.not_mem_nil List.not_mem_nil List.not_mem_nil
      have f880 := hR.kx k859 List.not_mem_nil
      have f881 := hMR.kx k859 List.not_mem_nil
      have f882 := hRR.kx k859 List.not_mem_nil
      have f883 := hL.kx k859 List.not_mem_nil
      have f884 := f836.kx k859 List.not_mem_nil
      obtain ⟨v863, g864, f865, f866, gf867, gc868, gl869⟩ := id f862
      subst e861
      refine pd_cV (a := cl) (As := [.ref r856]) (rest := []) X w f873 rfl (c_Classes_find l G h857 (by assumption) (by assumption)) ok_Classes_find ⟨mT_773, mT_774⟩ mT_772 ⟨by decide, by decide⟩ rfl hl.1 rfl (Nat.le_of_ble_eq_true rfl) d_p1m14_67 ⟨by decide, by decide⟩ (fun r885 h886 H locs hp887 w => ?_)
      refine W.widen (k := 2) (n := 64) (by decide) (by decide) ?_
      obtain ⟨e888, rfl⟩ := hp887
      refine pd_ostore (lv' := [(6, va_rf r885), (5, .ref (A 0)), (4, .int (nI 0)), (3, .int (nI 4)), (0, .ref x), (1, .ref y), (2, .int (nI 0))]) hx hb d_p1m14_70 hl (by decide) rfl (fun ls hl => ?_)
      refine lv_aload_n hx hb d_p1m14_72 rfl (lv_at hl 4 rfl) ?_
      refine pd_get X w f870 rfl 1 (by decide) mT_368 rfl rfl d_p1m14_73 ?_
      refine lv_aload_n hx hb d_p1m14_76 rfl (lv_at hl 5 rfl) ?_
      refine lv_iload_n hx hb d_p1m14_77 rfl (lv_at hl 3 rfl) ?_
      refine lv_iconst (v := nI 1) hx hb d_p1m14_78 (by decide) ?_
      refine pd_iadd hx hb d_p1m14_79 ?_
      refine pd_cV (a := y) (As := [.int (nI 5)]) (rest := [.ref cl]) X w f871 rfl (c_Line_word l G h857 (by assumption) (by omega)) ok_Line_word ⟨mT_574, mT_575⟩ mT_573 ⟨by decide, by decide⟩ rfl hl.1 rfl (Nat.le_of_ble_eq_true rfl) d_p1m14_80 ⟨by decide, by decide⟩ (fun r889 h890 H locs hp891 w => ?_)
      refine W.widen (k := 4) (n := 128) (by decide) (by decide) ?_
      obtain ⟨k892, ds893, e894, f895⟩ := hp891
      have f903 := k892 _ _ f870 List.not_mem_nil
      have f904 := k892 _ _ f871 List.not_mem_nil
      have f905 := k892 _ _ f872 List.not_mem_nil
      have f906 := k892 _ _ f873 List.not_mem_nil
      have f907 := k892 _ _ f865 List.not_mem_nil
      have f908 := k892 _ _ f874 List.not_mem_nil
      have f909 := k892 _ _ f866 List.not_mem_nil
      have f910 := f875.kx k892 List.not_mem_nil List.not_mem_nil
      have f911 := f876.kx k892 List.not_mem_nil List.not_mem_nil List.not_mem_nil
      have f912 := f877.kx k892 List.not_mem_nil List.not_mem_nil List.not_mem_nil
      have f913 := f878.kx k892 List.not_mem_nil List.not_mem_nil List.not_mem_nil
      have f914 := f879.kx k892 List.not_mem_nil List.not_mem_nil List.not_mem_nil List.not_mem_nil List.not_mem_nil
      have f915 := f880.kx k892 List.not_mem_nil
      have f916 := f881.kx k892 List.not_mem_nil
      have f917 := f882.kx k892 List.not_mem_nil
      have f918 := f883.kx k892 List.not_mem_nil
      have f919 := f884.kx k892 List.not_mem_nil
      have f920 := f862.kx k892 List.not_mem_nil
      obtain ⟨v896, g897, f898, f899, gf900, gc901, gl902⟩ := id f895
      subst e894
      refine pd_cV (a := cl) (As := [.ref r889]) (rest := []) X w f906 rfl (c_Classes_find l G h890 (by assumption) (by assumption)) ok_Classes_find ⟨mT_773, mT_774⟩ mT_772 ⟨by decide, by decide⟩ rfl hl.1 rfl (Nat.le_of_ble_eq_true rfl) d_p1m14_83 ⟨by decide, by decide⟩ (fun r921 h922 H locs hp923 w => ?_)
      refine W.widen (k := 4) (n := 128) (by decide) (by decide) ?_
      obtain ⟨e924, rfl⟩ := hp923
      refine pd_ostore (lv' := [(7, va_rf r921), (6, va_rf r885), (5, .ref (A 0)), (4, .int (nI 0)), (3, .int (nI 4)), (0, .ref x), (1, .ref y), (2, .int (nI 0))]) hx hb d_p1m14_86 hl (by decide) (by simp [pd_cat]) (fun ls hl => ?_)
      refine pd_oload hx hb d_p1m14_88 (lv_at hl 1 rfl) ?_
      rcases pd_om e888 with ⟨q925, q928⟩ | ⟨i927, q925, q928⟩
      · -- none
        refine pd_top (v' := .null) (by rw [q928]; rfl) ?_
        rw [q928] at hl
        have hl : lv_has ls 11 [(7, va_rf r921), (6, .null), (5, .ref (A 0)), (4, .int (nI 0)), (3, .int (nI 4)), (0, .ref x), (1, .ref y), (2, .int (nI 0))] := hl
        refine lv_ifnonnullN hx hb d_p1m14_90 ?_
        refine lv_aload_n hx hb d_p1m14_93 rfl (lv_at hl 6 rfl) ?_
        refine pd_get X w f904 rfl 1 (by decide) mT_544 rfl rfl d_p1m14_94 ?_
        refine lv_iload_n hx hb d_p1m14_97 rfl (lv_at hl 4 rfl) ?_
        refine pd_jle (tgt := 105) hx hb d_p1m14_98 (by decide) (by omega) (by omega) (fun q930 => ?_) (fun q930 => ?_)
        · -- taken: 105
          refine lv_iconst (v := nI 0) hx hb d_p1m14_105 (by decide) ?_
          refine lv_istore (lv' := [(8, .int (nI 0)), (7, va_rf r921), (6, .null), (5, .ref (A 0)), (4, .int (nI 0)), (3, .int (nI 4)), (0, .ref x), (1, .ref y), (2, .int (nI 0))]) hx hb d_p1m14_106 hl (by decide) (by simp [pd_cat]) (fun ls hl => ?_)
          refine pd_oload hx hb d_p1m14_108 (lv_at hl 1 rfl) ?_
          rcases pd_om e924 with ⟨q931, q934⟩ | ⟨i933, q931, q934⟩
          · -- none
            refine pd_top (v' := .null) (by rw [q934]; rfl) ?_
            rw [q934] at hl
            have hl : lv_has ls 11 [(8, .int (nI 0)), (7, .null), (6, .null), (5, .ref (A 0)), (4, .int (nI 0)), (3, .int (nI 4)), (0, .ref x), (1, .ref y), (2, .int (nI 0))] := hl
            refine lv_ifnonnullN hx hb d_p1m14_110 ?_
            refine lv_aload_n hx hb d_p1m14_113 rfl (lv_at hl 7 rfl) ?_
            refine pd_get X w f904 rfl 1 (by decide) mT_544 rfl rfl d_p1m14_114 ?_
            refine lv_iload_n hx hb d_p1m14_117 rfl (lv_at hl 5 rfl) ?_
            refine lv_iconst (v := nI 1) hx hb d_p1m14_118 (by decide) ?_
            refine pd_iadd hx hb d_p1m14_119 ?_
            refine pd_jle (tgt := 127) hx hb d_p1m14_120 (by decide) (by omega) (by omega) (fun q936 => ?_) (fun q936 => ?_)
            · -- taken: 127
              refine lv_iconst (v := nI 0) hx hb d_p1m14_127 (by decide) ?_
              refine lv_istore (lv' := [(9, .int (nI 0)), (8, .int (nI 0)), (7, .null), (6, .null), (5, .ref (A 0)), (4, .int (nI 0)), (3, .int (nI 4)), (0, .ref x), (1, .ref y), (2, .int (nI 0))]) hx hb d_p1m14_128 hl (by decide) rfl (fun ls hl => ?_)
              refine lv_aload hx hb d_p1m14_130 (lv_at hl 4 rfl) ?_
              refine lv_ifnull hx hb d_p1m14_132 ?_
              refine lv_iload hx hb d_p1m14_135 (lv_at hl 1 rfl) ?_
              refine pd_zne (tgt := 145) hx hb d_p1m14_137 (by decide) (by decide) (fun q => absurd q (by decide)) (fun _ => ?_)
              refine lv_iload hx hb d_p1m14_140 (lv_at hl 0 rfl) ?_
              refine pd_zeq (tgt := 148) hx hb d_p1m14_142 (by decide) (by decide) (fun _ => ?_) (fun q => absurd q (by decide))
              refine lv_aload_n hx hb d_p1m14_148 rfl (lv_at hl 7 rfl) ?_
              refine pd_get X w f903 rfl 1 (by decide) mT_368 rfl rfl d_p1m14_149 ?_
              refine lv_aload_n hx hb d_p1m14_152 rfl (lv_at hl 8 rfl) ?_
              refine lv_iconst (v := nI 1) hx hb d_p1m14_153 (by decide) ?_
              refine pd_cV (a := y) (As := [.int (nI 1)]) (rest := [.ref cl]) X w f904 rfl (c_Line_word l G h890 (by assumption) (by omega)) ok_Line_word ⟨mT_574, mT_575⟩ mT_573 ⟨by decide, by decide⟩ rfl hl.1 rfl (Nat.le_of_ble_eq_true rfl) d_p1m14_154 ⟨by decide, by decide⟩ (fun r940 h941 H locs hp942 w => ?_)
              refine W.widen (k := 6) (n := 192) (by decide) (by decide) ?_
              obtain ⟨k943, ds944, e945, f946⟩ := hp942
              have f954 := k943 _ _ f903 List.not_mem_nil
              have f955 := k943 _ _ f904 List.not_mem_nil
              have f956 := k943 _ _ f905 List.not_mem_nil
              have f957 := k943 _ _ f906 List.not_mem_nil
              have f958 := k943 _ _ f907 List.not_mem_nil
              have f959 := k943 _ _ f898 List.not_mem_nil
              have f960 := k943 _ _ f908 List.not_mem_nil
              have f961 := k943 _ _ f909 List.not_mem_nil
              have f962 := k943 _ _ f899 List.not_mem_nil
              have f963 := f910.kx k943 List.not_mem_nil List.not_mem_nil
              have f964 := f911.kx k943 List.not_mem_nil List.not_mem_nil List.not_mem_nil
              have f965 := f912.kx k943 List.not_mem_nil List.not_mem_nil List.not_mem_nil
              have f966 := f913.kx k943 List.not_mem_nil List.not_mem_nil List.not_mem_nil
              have f967 := f914.kx k943 List.not_mem_nil List.not_mem_nil List.not_mem_nil List.not_mem_nil List.not_mem_nil
              have f968 := f915.kx k943 List.not_mem_nil
              have f969 := f916.kx k943 List.not_mem_nil
              have f970 := f917.kx k943 List.not_mem_nil
              have f971 := f918.kx k943 List.not_mem_nil
              have f972 := f919.kx k943 List.not_mem_nil
              have f973 := f920.kx k943 List.not_mem_nil
              have f974 := f895.kx k943 List.not_mem_nil
              obtain ⟨v947, g948, f949, f950, gf951, gc952, gl953⟩ := id f946
              subst e945
              refine pd_cV (a := cl) (As := [.ref r940]) (rest := []) X w f957 rfl (c_Classes_find l G h941 (by assumption) (by assumption)) ok_Classes_find ⟨mT_773, mT_774⟩ mT_772 ⟨by decide, by decide⟩ rfl hl.1 rfl (Nat.le_of_ble_eq_true rfl) d_p1m14_157 ⟨by decide, by decide⟩ (fun r975 h976 H locs hp977 w => ?_)
              refine W.widen (k := 6) (n := 192) (by decide) (by decide) ?_
              obtain ⟨e978, rfl⟩ := hp977
              rcases pd_om e978 with ⟨q979, q982⟩ | ⟨i981, q979, q982⟩
              · -- none
                refine pd_top (v' := .null) (by rw [q982]; rfl) ?_
                have hl : lv_has ls 11 [(9, .int (nI 0)), (8, .int (nI 0)), (7, .null), (6, .null), (5, .ref (A 0)), (4, .int (nI 0)), (3, .int (nI 4)), (0, .ref x), (1, .ref y), (2, .int (nI 0))] := hl
                refine lv_ifnullN (tgt := 166) hx hb d_p1m14_160 (by decide) ?_
                refine lv_aloadN hx hb d_p1m14_166 (lv_at hl 3 rfl) ?_
                refine lv_ifnullN (tgt := 182) hx hb d_p1m14_168 (by decide) ?_
                refine lv_iconst (v := nI 0) hx hb d_p1m14_182 (by decide) ?_
                refine lv_istore (lv' := [(10, .int (nI 0)), (9, .int (nI 0)), (8, .int (nI 0)), (7, .null), (6, .null), (5, .ref (A 0)), (4, .int (nI 0)), (3, .int (nI 4)), (0, .ref x), (1, .ref y), (2, .int (nI 0))]) hx hb d_p1m14_183 hl (by decide) rfl (fun ls hl => ?_)
                refine lv_aload hx hb d_p1m14_185 (lv_at hl 5 rfl) ?_
                obtain ⟨nm985, fx986, f987, f988, f989⟩ := f968.1 0 (by omega)
                obtain ⟨v990, g991, f992, f993, gf994, gc995, gl996⟩ := id f988
                obtain ⟨v997, cap998, g999, f1000, z1001, z1002, z1003, z1004, z1005⟩ := id f989
                refine pd_get X w f987 rfl 2 (by decide) mT_260 rfl rfl d_p1m14_187 ?_
                refine pd_bne (tgt := 214) hx hb d_p1m14_190 (by decide) (fun q1006 => ?_) (fun q1006 => ?_)
                · -- taken: 214
                  refine lv_bipush (v := -4) hx hb d_p1m14_214 (by decide) ?_
                  have hup : gr_up n R cs false = some 0 := if_neg (by omega)
                  have hfi : gr_find R n (gr_w cs 4) = none := q925
                  have hse : gr_find R n (gr_w cs 5) = none := q931
                  have hhd : gr_hd n R cs false 4 (some 0) (none) (none) = .inl (-4) := by rw [gr_hd_s, if_neg (by simp; omega), if_neg (by rw [q979]; simp), if_pos (Or.inl q1006)]
                  have hg : gr_dc n R cs false (if false = true then 3 else 4) = ((-4), n, R) := by show gr_dc n R cs false 4 = _; unfold gr_dc; rw [hup, hfi, hse, hhd]
                  exact pd_iret (v := (-4)) X w ⟨by rw [hg], pd_kx.mono (us := [6, 7, 8, 9, 10]) (pd_kx.tr (pd_kx.tr (k859) (k892)) (k943)) (by simp), A, (by rw [hg]; exact ⟨lb, cl, me, ru, bk, f954, hz_x, f963, f964, f965, f966, f967, ht60⟩)⟩ (by decide) (by decide) d_p1m14_216
                · -- not taken: 193
                  refine lv_aloadN hx hb d_p1m14_193 (lv_at hl 4 rfl) ?_
                  refine pd_cS (As := [.null]) (rest := []) X w (c_PolicyDesk_isPlainClass l G h941 (A := A) (n := n) (R := R) (o := none) (by assumption) (fun t ht => by cases ht)) ok_PolicyDesk_isPlainClass mT_778 mT_777 ⟨by decide, by decide⟩ rfl hl.1 rfl (Nat.le_of_ble_eq_true rfl) d_p1m14_195 ⟨by decide, by decide⟩ (fun r1007 h1008 H locs hp1009 w => ?_)
                  refine W.widen (k := 6) (n := 192) (by decide) (by decide) ?_
                  obtain ⟨e1010, rfl⟩ := hp1009
                  refine pd_bne (tgt := 214) hx hb d_p1m14_198 (by decide) (fun q1011 => ?_) (fun q1011 => ?_)
                  · -- taken: 214
                    refine lv_bipush (v := -4) hx hb d_p1m14_214 (by decide) ?_
                    have hup : gr_up n R cs false = some 0 := if_neg (by omega)
                    have hfi : gr_find R n (gr_w cs 4) = none := q925
                    have hse : gr_find R n (gr_w cs 5) = none := q931
                    have hhd : gr_hd n R cs false 4 (some 0) (none) (none) = .inl (-4) := by rw [gr_hd_s, if_neg (by simp; omega), if_neg (by rw [q979]; simp), if_pos (Or.inr (Or.inl (e1010.symm.trans q1011)))]
                    have hg : gr_dc n R cs false (if false = true then 3 else 4) = ((-4), n, R) := by show gr_dc n R cs false 4 = _; unfold gr_dc; rw [hup, hfi, hse, hhd]
                    exact pd_iret (v := (-4)) X w ⟨by rw [hg], pd_kx.mono (us := [6, 7, 8, 9, 10]) (pd_kx.tr (pd_kx.tr (k859) (k892)) (k943)) (by simp), A, (by rw [hg]; exact ⟨lb, cl, me, ru, bk, f954, hz_x, f963, f964, f965, f966, f967, ht60⟩)⟩ (by decide) (by decide) d_p1m14_216
                  · -- not taken: 201
                    refine lv_aloadN hx hb d_p1m14_201 (lv_at hl 3 rfl) ?_
                    refine pd_cS (As := [.null]) (rest := []) X w (c_PolicyDesk_isPlainClass l G h941 (A := A) (n := n) (R := R) (o := none) (by assumption) (fun t ht => by cases ht)) ok_PolicyDesk_isPlainClass mT_778 mT_777 ⟨by decide, by decide⟩ rfl hl.1 rfl (Nat.le_of_ble_eq_true rfl) d_p1m14_203 ⟨by decide, by decide⟩ (fun r1012 h1013 H locs hp1014 w => ?_)
                    refine W.widen (k := 6) (n := 192) (by decide) (by decide) ?_
                    obtain ⟨e1015, rfl⟩ := hp1014
                    refine pd_bne (tgt := 214) hx hb d_p1m14_206 (by decide) (fun q1016 => ?_) (fun q1016 => ?_)
                    · -- taken: 214
                      refine lv_bipush (v := -4) hx hb d_p1m14_214 (by decide) ?_
                      have hup : gr_up n R cs false = some 0 := if_neg (by omega)
                      have hfi : gr_find R n (gr_w cs 4) = none := q925
                      have hse : gr_find R n (gr_w cs 5) = none := q931
                      have hhd : gr_hd n R cs false 4 (some 0) (none) (none) = .inl (-4) := by rw [gr_hd_s, if_neg (by simp; omega), if_neg (by rw [q979]; simp), if_pos (Or.inr (Or.inr (Or.inl (e1015.symm.trans q1016))))]
                      have hg : gr_dc n R cs false (if false = true then 3 else 4) = ((-4), n, R) := by show gr_dc n R cs false 4 = _; unfold gr_dc; rw [hup, hfi, hse, hhd]
                      exact pd_iret (v := (-4)) X w ⟨by rw [hg], pd_kx.mono (us := [6, 7, 8, 9, 10]) (pd_kx.tr (pd_kx.tr (k859) (k892)) (k943)) (by simp), A, (by rw [hg]; exact ⟨lb, cl, me, ru, bk, f954, hz_x, f963, f964, f965, f966, f967, ht60⟩)⟩ (by decide) (by decide) d_p1m14_216
                    · -- not taken: 209
                      refine lv_iload hx hb d_p1m14_209 (lv_at hl 0 rfl) ?_
                      refine pd_zeq (tgt := 217) hx hb d_p1m14_211 (by decide) (by decide) (fun _ => ?_) (fun q => absurd q (by decide))
                      refine lv_aload_n hx hb d_p1m14_217 rfl (lv_at hl 8 rfl) ?_
                      refine pd_get X w f954 rfl 1 (by decide) mT_368 rfl rfl d_p1m14_218 ?_
                      refine lv_aload_n hx hb d_p1m14_221 rfl (lv_at hl 9 rfl) ?_
                      refine lv_iconst (v := nI 1) hx hb d_p1m14_222 (by decide) ?_
                      refine pd_cV (a := y) (As := [.int (nI 1)]) (rest := [.ref cl]) X w f955 rfl (c_Line_word l G h941 (by assumption) (by omega)) ok_Line_word ⟨mT_574, mT_575⟩ mT_573 ⟨by decide, by decide⟩ rfl hl.1 rfl (Nat.le_of_ble_eq_true rfl) d_p1m14_223 ⟨by decide, by decide⟩ (fun r1018 h1019 H locs hp1020 w => ?_)
                      refine W.widen (k := 8) (n := 256) (by decide) (by decide) ?_
                      obtain ⟨k1021, ds1022, e1023, f1024⟩ := hp1020
                      have f1032 := k1021 _ _ f954 List.not_mem_nil
                      have f1033 := k1021 _ _ f955 List.not_mem_nil
                      have f1034 := k1021 _ _ f956 List.not_mem_nil
                      have f1035 := k1021 _ _ f957 List.not_mem_nil
                      have f1036 := k1021 _ _ f958 List.not_mem_nil
                      have f1037 := k1021 _ _ f959 List.not_mem_nil
                      have f1038 := k1021 _ _ f949 List.not_mem_nil
                      have f1039 := k1021 _ _ f987 List.not_mem_nil
                      have f1040 := k1021 _ _ f992 List.not_mem_nil
                      have f1041 := k1021 _ _ f1000 List.not_mem_nil
                      have f1042 := k1021 _ _ f960 List.not_mem_nil
                      have f1043 := k1021 _ _ f961 List.not_mem_nil
                      have f1044 := k1021 _ _ f962 List.not_mem_nil
                      have f1045 := k1021 _ _ f950 List.not_mem_nil
                      have f1046 := k1021 _ _ f993 List.not_mem_nil
                      have f1047 := f963.kx k1021 List.not_mem_nil List.not_mem_nil
                      have f1048 := f964.kx k1021 List.not_mem_nil List.not_mem_nil List.not_mem_nil
                      have f1049 := f965.kx k1021 List.not_mem_nil List.not_mem_nil List.not_mem_nil
                      have f1050 := f966.kx k1021 List.not_mem_nil List.not_mem_nil List.not_mem_nil
                      have f1051 := f967.kx k1021 List.not_mem_nil List.not_mem_nil List.not_mem_nil List.not_mem_nil List.not_mem_nil
                      have f1052 := f968.kx k1021 List.not_mem_nil
                      have f1053 := f969.kx k1021 List.not_mem_nil
                      have f1054 := f970.kx k1021 List.not_mem_nil
                      have f1055 := f971.kx k1021 List.not_mem_nil
                      have f1056 := f972.kx k1021 List.not_mem_nil
                      have f1057 := f973.kx k1021 List.not_mem_nil
                      have f1058 := f974.kx k1021 List.not_mem_nil
                      have f1059 := f946.kx k1021 List.not_mem_nil
                      have f1060 := f988.kx k1021 List.not_mem_nil
                      have f1061 := f989.kx k1021 List.not_mem_nil List.not_mem_nil List.not_mem_nil
                      obtain ⟨v1025, g1026, f1027, f1028, gf1029, gc1030, gl1031⟩ := id f1024
                      subst e1023
                      refine lv_iload_n hx hb d_p1m14_226 rfl (lv_at hl 10 rfl) ?_
                      refine lv_aload hx hb d_p1m14_227 (lv_at hl 5 rfl) ?_
                      refine lv_aloadN hx hb d_p1m14_229 (lv_at hl 4 rfl) ?_
                      refine lv_aloadN hx hb d_p1m14_231 (lv_at hl 3 rfl) ?_
                      refine pd_cV (a := cl) (As := [.ref r1018, .int (nI 0), .ref (A 0), .null, .null]) (rest := []) X w f1035 rfl (c_Classes_add l G h1019 (A := A) (n := n) (R := R) (bi := false) (ab := some 0) (fi := none) (se := none) (by assumption) (by assumption) (fun t ht => by cases ht; omega) (fun t ht => by cases ht) (fun t ht => by cases ht)) ok_Classes_add ⟨mT_781, mT_782⟩ mT_780 ⟨by decide, by decide⟩ rfl hl.1 rfl (Nat.le_of_ble_eq_true rfl) d_p1m14_233 ⟨by decide, by decide⟩ (fun r1062 h1063 H locs hp1064 w => ?_)
                      refine W.widen (k := 38) (n := 688) (by decide) (by decide) ?_
                      obtain ⟨k1065, e1066, A1067, ag1068, f1069⟩ := hp1064
                      have f1070 := k1065 _ _ f1032 (show (5 : Nat) ∉ [6, 7, 8, 9, 10] by decide)
                      have f1071 := k1065 _ _ f1033 (show (0 : Nat) ∉ [6, 7, 8, 9, 10] by decide)
                      have f1072 := k1065 _ _ f1034 (show (0 : Nat) ∉ [6, 7, 8, 9, 10] by decide)
                      have f1073 := k1065 _ _ f1036 (show (0 : Nat) ∉ [6, 7, 8, 9, 10] by decide)
                      have f1074 := k1065 _ _ f1037 (show (0 : Nat) ∉ [6, 7, 8, 9, 10] by decide)
                      have f1075 := k1065 _ _ f1038 (show (0 : Nat) ∉ [6, 7, 8, 9, 10] by decide)
                      have f1076 := k1065 _ _ f1039 (show (0 : Nat) ∉ [6, 7, 8, 9, 10] by decide)
                      have f1077 := k1065 _ _ f1040 (show (0 : Nat) ∉ [6, 7, 8, 9, 10] by decide)
                      have f1078 := k1065 _ _ f1041 (show (0 : Nat) ∉ [6, 7, 8, 9, 10] by decide)
                      have f1079 := k1065 _ _ f1027 (show (0 : Nat) ∉ [6, 7, 8, 9, 10] by decide)
                      have f1080 := k1065 _ _ f1042 (show (0 : Nat) ∉ [6, 7, 8, 9, 10] by decide)
                      have f1081 := k1065 _ _ f1043 (show (0 : Nat) ∉ [6, 7, 8, 9, 10] by decide)
                      have f1082 := k1065 _ _ f1044 (show (0 : Nat) ∉ [6, 7, 8, 9, 10] by decide)
                      have f1083 := k1065 _ _ f1045 (show (0 : Nat) ∉ [6, 7, 8, 9, 10] by decide)
                      have f1084 := k1065 _ _ f1046 (show (0 : Nat) ∉ [6, 7, 8, 9, 10] by decide)
                      have f1085 := k1065 _ _ f1028 (show (0 : Nat) ∉ [6, 7, 8, 9, 10] by decide)
                      have f1086 := f1047.kx k1065 (show (1 : Nat) ∉ [6, 7, 8, 9, 10] by decide) (show (2 : Nat) ∉ [6, 7, 8, 9, 10] by decide)
                      have f1087 := f1049.kx k1065 (show (11 : Nat) ∉ [6, 7, 8, 9, 10] by decide) (show (12 : Nat) ∉ [6, 7, 8, 9, 10] by decide) (show (0 : Nat) ∉ [6, 7, 8, 9, 10] by decide)
                      have f1088 := f1050.kx k1065 (show (13 : Nat) ∉ [6, 7, 8, 9, 10] by decide) (show (14 : Nat) ∉ [6, 7, 8, 9, 10] by decide) (show (0 : Nat) ∉ [6, 7, 8, 9, 10] by decide)
                      have f1089 := f1051.kx k1065 (show (15 : Nat) ∉ [6, 7, 8, 9, 10] by decide) (show (16 : Nat) ∉ [6, 7, 8, 9, 10] by decide) (show (17 : Nat) ∉ [6, 7, 8, 9, 10] by decide) (show (3 : Nat) ∉ [6, 7, 8, 9, 10] by decide) (show (4 : Nat) ∉ [6, 7, 8, 9, 10] by decide)
                      have f1090 := f1053.kx k1065 (show (0 : Nat) ∉ [6, 7, 8, 9, 10] by decide)
                      have f1091 := f1054.kx k1065 (show (0 : Nat) ∉ [6, 7, 8, 9, 10] by decide)
                      have f1092 := f1055.kx k1065 (show (0 : Nat) ∉ [6, 7, 8, 9, 10] by decide)
                      have f1093 := f1056.kx k1065 (show (0 : Nat) ∉ [6, 7, 8, 9, 10] by decide)
                      have f1094 := f1057.kx k1065 (show (0 : Nat) ∉ [6, 7, 8, 9, 10] by decide)
                      have f1095 := f1058.kx k1065 (show (0 : Nat) ∉ [6, 7, 8, 9, 10] by decide)
                      have f1096 := f1059.kx k1065 (show (0 : Nat) ∉ [6, 7, 8, 9, 10] by decide)
                      have f1097 := f1060.kx k1065 (show (0 : Nat) ∉ [6, 7, 8, 9, 10] by decide)
                      have f1098 := f1061.kx k1065 (show (0 : Nat) ∉ [6, 7, 8, 9, 10] by decide) (show (0 : Nat) ∉ [6, 7, 8, 9, 10] by decide) (show (0 : Nat) ∉ [6, 7, 8, 9, 10] by decide)
                      have f1099 := f1024.kx k1065 (show (0 : Nat) ∉ [6, 7, 8, 9, 10] by decide)
                      have hup : gr_up n R cs false = some 0 := if_neg (by omega)
                      have hfi : gr_find R n (gr_w cs 4) = none := q925
                      have hse : gr_find R n (gr_w cs 5) = none := q931
                      have hhd : gr_hd n R cs false 4 (some 0) (none) (none) = .inr 0 := by rw [gr_hd_s, if_neg (by simp; omega), if_neg (by rw [q979]; simp), if_neg (fun h9 => by rcases h9 with h9 | h9 | h9 | h9; rw [q1006] at h9; cases h9; rw [← e1010, q1011] at h9; cases h9; rw [← e1015, q1016] at h9; cases h9; exact h9.1 rfl)]
                      have hg : gr_dc n R cs false (if false = true then 3 else 4) = gr_cadd n R (gr_row R n (gr_w cs 1) false (some 0) (none) (none)) := by show gr_dc n R cs false 4 = _; unfold gr_dc; rw [hup, hfi, hse, hhd]
                      exact pd_iret (v := r1062) X w ⟨by rw [hg]; exact e1066, pd_kx.tr (pd_kx.mono (us := [6, 7, 8, 9, 10]) (pd_kx.tr (pd_kx.tr (pd_kx.tr (k859) (k892)) (k943)) (k1021)) (by simp)) (k1065), A1067, (by rw [hg]; exact ⟨lb, cl, me, ru, bk, f1070, hz_x, f1086, f1069, (pd_Mems.ag f1087 ag1068 gr_cadd_le), f1088, f1089, ht60⟩)⟩ (by decide) (by decide) d_p1m14_236
              · -- some
                refine pd_top (v' := .ref (A i981)) (by rw [q982]; rfl) ?_
                have hl : lv_has ls 11 [(9, .int (nI 0)), (8, .int (nI 0)), (7, .null), (6, .null), (5, .ref (A 0)), (4, .int (nI 0)), (3, .int (nI 4)), (0, .ref x), (1, .ref y), (2, .int (nI 0))] := hl
                have i981lt := gr_fi_lt q979
                refine lv_ifnull hx hb d_p1m14_160 ?_
                refine lv_bipush (v := -3) hx hb d_p1m14_163 (by decide) ?_
                have hup : gr_up n R cs false = some 0 := if_neg (by omega)
                have hfi : gr_find R n (gr_w cs 4) = none := q925
                have hse : gr_find R n (gr_w cs 5) = none := q931
                have hhd : gr_hd n R cs false 4 (some 0) (none) (none) = .inl (-3) := by rw [gr_hd_s, if_neg (by simp; omega), if_pos (by rw [q979]; simp)]
                have hg : gr_dc n R cs false (if false = true then 3 else 4) = ((-3), n, R) := by show gr_dc n R cs false 4 = _; unfold gr_dc; rw [hup, hfi, hse, hhd]
                exact pd_iret (v := (-3)) X w ⟨by rw [hg], pd_kx.mono (us := [6, 7, 8, 9, 10]) (pd_kx.tr (pd_kx.tr (k859) (k892)) (k943)) (by simp), A, (by rw [hg]; exact ⟨lb, cl, me, ru, bk, f954, hz_x, f963, f964, f965, f966, f967, ht60⟩)⟩ (by decide) (by decide) d_p1m14_165
            · -- not taken: 123
              refine lv_iconst (v := nI 1) hx hb d_p1m14_123 (by decide) ?_
              refine lv_goto (tgt := 128) hx hb d_p1m14_124 (by decide) ?_
              refine lv_istore (lv' := [(9, .int (nI 1)), (8, .int (nI 0)), (7, .null), (6, .null), (5, .ref (A 0)), (4, .int (nI 0)), (3, .int (nI 4)), (0, .ref x), (1, .ref y), (2, .int (nI 0))]) hx hb d_p1m14_128 hl (by decide) rfl (fun ls hl => ?_)
              refine lv_aload hx hb d_p1m14_130 (lv_at hl 4 rfl) ?_
              refine lv_ifnull hx hb d_p1m14_132 ?_
              refine lv_iload hx hb d_p1m14_135 (lv_at hl 1 rfl) ?_
              refine pd_zne (tgt := 145) hx hb d_p1m14_137 (by decide) (by decide) (fun q => absurd q (by decide)) (fun _ => ?_)
              refine lv_iload hx hb d_p1m14_140 (lv_at hl 0 rfl) ?_
              refine pd_zeq (tgt := 148) hx hb d_p1m14_142 (by decide) (by decide) (fun q => absurd q (by decide)) (fun _ => ?_)
              refine lv_bipush (v := -2) hx hb d_p1m14_145 (by decide) ?_
              have hup : gr_up n R cs false = some 0 := if_neg (by omega)
              have hfi : gr_find R n (gr_w cs 4) = none := q925
              have hse : gr_find R n (gr_w cs 5) = none := q931
              have hhd : gr_hd n R cs false 4 (some 0) (none) (none) = .inl (-2) := by rw [gr_hd_s, if_pos (by simp; omega)]
              have hg : gr_dc n R cs false (if false = true then 3 else 4) = ((-2), n, R) := by show gr_dc n R cs false 4 = _; unfold gr_dc; rw [hup, hfi, hse, hhd]
              exact pd_iret (v := (-2)) X w ⟨by rw [hg], pd_kx.mono (us := [6, 7, 8, 9, 10]) (pd_kx.tr (k859) (k892)) (by simp), A, (by rw [hg]; exact ⟨lb, cl, me, ru, bk, f903, hz_x, f910, f911, f912, f913, f914, ht60⟩)⟩ (by decide) (by decide) d_p1m14_147
          · -- some
            refine pd_top (v' := .ref (A i933)) (by rw [q934]; rfl) ?_
            rw [q934] at hl
            have hl : lv_has ls 11 [(8, .int (nI 0)), (7, .ref (A i933)), (6, .null), (5, .ref (A 0)), (4, .int (nI 0)), (3, .int (nI 4)), (0, .ref x), (1, .ref y), (2, .int (nI 0))] := hl
            have i933lt := gr_fi_lt q931
            refine lv_ifnonnull (tgt := 127) hx hb d_p1m14_110 (by decide) ?_
            refine lv_iconst (v := nI 0) hx hb d_p1m14_127 (by decide) ?_
            refine lv_istore (lv' := [(9, .int (nI 0)), (8, .int (nI 0)), (7, .ref (A i933)), (6, .null), (5, .ref (A 0)), (4, .int (nI 0)), (3, .int (nI 4)), (0, .ref x), (1, .ref y), (2, .int (nI 0))]) hx hb d_p1m14_128 hl (by decide) rfl (fun ls hl => ?_)
            refine lv_aload hx hb d_p1m14_130 (lv_at hl 4 rfl) ?_
            refine lv_ifnull hx hb d_p1m14_132 ?_
            refine lv_iload hx hb d_p1m14_135 (lv_at hl 1 rfl) ?_
            refine pd_zne (tgt := 145) hx hb d_p1m14_137 (by decide) (by decide) (fun q => absurd q (by decide)) (fun _ => ?_)
            refine lv_iload hx hb d_p1m14_140 (lv_at hl 0 rfl) ?_
            refine pd_zeq (tgt := 148) hx hb d_p1m14_142 (by decide) (by decide) (fun _ => ?_) (fun q => absurd q (by decide))
            refine lv_aload_n hx hb d_p1m14_148 rfl (lv_at hl 7 rfl) ?_
            refine pd_get X w f903 rfl 1 (by decide) mT_368 rfl rfl d_p1m14_149 ?_
            refine lv_aload_n hx hb d_p1m14_152 rfl (lv_at hl 8 rfl) ?_
            refine lv_iconst (v := nI 1) hx hb d_p1m14_153 (by decide) ?_
            refine pd_cV (a := y) (As := [.int (nI 1)]) (rest := [.ref cl]) X w f904 rfl (c_Line_word l G h890 (by assumption) (by omega)) ok_Line_word ⟨mT_574, mT_575⟩ mT_573 ⟨by decide, by decide⟩ rfl hl.1 rfl (Nat.le_of_ble_eq_true rfl) d_p1m14_154 ⟨by decide, by decide⟩ (fun r1108 h1109 H locs hp1110 w => ?_)
            refine W.widen (k := 6) (n := 192) (by decide) (by decide) ?_
            obtain ⟨k1111, ds1112, e1113, f1114⟩ := hp1110
            have f1122 := k1111 _ _ f903 List.not_mem_nil
            have f1123 := k1111 _ _ f904 List.not_mem_nil
            have f1124 := k1111 _ _ f905 List.not_mem_nil
            have f1125 := k1111 _ _ f906 List.not_mem_nil
            have f1126 := k1111 _ _ f907 List.not_mem_nil
            have f1127 := k1111 _ _ f898 List.not_mem_nil
            have f1128 := k1111 _ _ f908 List.not_mem_nil
            have f1129 := k1111 _ _ f909 List.not_mem_nil
            have f1130 := k1111 _ _ f899 List.not_mem_nil
            have f1131 := f910.kx k1111 List.not_mem_nil List.not_mem_nil
            have f1132 := f911.kx k1111 List.not_mem_nil List.not_mem_nil List.not_mem_nil
            have f1133 := f912.kx k1111 List.not_mem_nil List.not_mem_nil List.not_mem_nil
            have f1134 := f913.kx k1111 List.not_mem_nil List.not_mem_nil List.not_mem_nil
            have f1135 := f914.kx k1111 List.not_mem_nil List.not_mem_nil List.not_mem_nil List.not_mem_nil List.not_mem_nil
            have f1136 := f915.kx k1111 List.not_mem_nil
            have f1137 := f916.kx k1111 List.not_mem_nil
            have f1138 := f917.kx k1111 List.not_mem_nil
            have f1139 := f918.kx k1111 List.not_mem_nil
            have f1140 := f919.kx k1111 List.not_mem_nil
            have f1141 := f920.kx k1111 List.not_mem_nil
            have f1142 := f895.kx k1111 List.not_mem_nil
            obtain ⟨v1115, g1116, f1117, f1118, gf1119, gc1120, gl1121⟩ := id f1114
            subst e1113
            refine pd_cV (a := cl) (As := [.ref r1108]) (rest := []) X w f1125 rfl (c_Classes_find l G h1109 (by assumption) (by assumption)) ok_Classes_find ⟨mT_773, mT_774⟩ mT_772 ⟨by decide, by decide⟩ rfl hl.1 rfl (Nat.le_of_ble_eq_true rfl) d_p1m14_157 ⟨by decide, by decide⟩ (fun r1143 h1144 H locs hp1145 w => ?_)
            refine W.widen (k := 6) (n := 192) (by decide) (by decide) ?_
            obtain ⟨e1146, rfl⟩ := hp1145
            rcases pd_om e1146 with ⟨q1147, q1150⟩ | ⟨i1149, q1147, q1150⟩
            · -- none
              refine pd_top (v' := .null) (by rw [q1150]; rfl) ?_
              have hl : lv_has ls 11 [(9, .int (nI 0)), (8, .int (nI 0)), (7, .ref (A i933)), (6, .null), (5, .ref (A 0)), (4, .int (nI 0)), (3, .int (nI 4)), (0, .ref x), (1, .ref y), (2, .int (nI 0))] := hl
              refine lv_ifnullN (tgt := 166) hx hb d_p1m14_160 (by decide) ?_
              refine lv_aloadN hx hb d_p1m14_166 (lv_at hl 3 rfl) ?_
              refine lv_ifnullN (tgt := 182) hx hb d_p1m14_168 (by decide) ?_
              refine lv_iconst (v := nI 0) hx hb d_p1m14_182 (by decide) ?_
              refine lv_istore (lv' := [(10, .int (nI 0)), (9, .int (nI 0)), (8, .int (nI 0)), (7, .ref (A i933)), (6, .null), (5, .ref (A 0)), (4, .int (nI 0)), (3, .int (nI 4)), (0, .ref x), (1, .ref y), (2, .int (nI 0))]) hx hb d_p1m14_183 hl (by decide) rfl (fun ls hl => ?_)
              refine lv_aload hx hb d_p1m14_185 (lv_at hl 5 rfl) ?_
              obtain ⟨nm1153, fx1154, f1155, f1156, f1157⟩ := f1136.1 0 (by omega)
              obtain ⟨v1158, g1159, f1160, f1161, gf1162, gc1163, gl1164⟩ := id f1156
              obtain ⟨v1165, cap1166, g1167, f1168, z1169, z1170, z1171, z1172, z1173⟩ := id f1157
              refine pd_get X w f1155 rfl 2 (by decide) mT_260 rfl rfl d_p1m14_187 ?_
              refine pd_bne (tgt := 214) hx hb d_p1m14_190 (by decide) (fun q1174 => ?_) (fun q1174 => ?_)
              · -- taken: 214
                refine lv_bipush (v := -4) hx hb d_p1m14_214 (by decide) ?_
                have hup : gr_up n R cs false = some 0 := if_neg (by omega)
                have hfi : gr_find R n (gr_w cs 4) = none := q925
                have hse : gr_find R n (gr_w cs 5) = some i933 := q931
                have hhd : gr_hd n R cs false 4 (some 0) (none) (some i933) = .inl (-4) := by rw [gr_hd_s, if_neg (by simp; omega), if_neg (by rw [q1147]; simp), if_pos (Or.inl q1174)]
                have hg : gr_dc n R cs false (if false = true then 3 else 4) = ((-4), n, R) := by show gr_dc n R cs false 4 = _; unfold gr_dc; rw [hup, hfi, hse, hhd]
                exact pd_iret (v := (-4)) X w ⟨by rw [hg], pd_kx.mono (us := [6, 7, 8, 9, 10]) (pd_kx.tr (pd_kx.tr (k859) (k892)) (k1111)) (by simp), A, (by rw [hg]; exact ⟨lb, cl, me, ru, bk, f1122, hz_x, f1131, f1132, f1133, f1134, f1135, ht60⟩)⟩ (by decide) (by decide) d_p1m14_216
              · -- not taken: 193
                refine lv_aloadN hx hb d_p1m14_193 (lv_at hl 4 rfl) ?_
                refine pd_cS (As := [.null]) (rest := []) X w (c_PolicyDesk_isPlainClass l G h1109 (A := A) (n := n) (R := R) (o := none) (by assumption) (fun t ht => by cases ht)) ok_PolicyDesk_isPlainClass mT_778 mT_777 ⟨by decide, by decide⟩ rfl hl.1 rfl (Nat.le_of_ble_eq_true rfl) d_p1m14_195 ⟨by decide, by decide⟩ (fun r1175 h1176 H locs hp1177 w => ?_)
                refine W.widen (k := 6) (n := 192) (by decide) (by decide) ?_
                obtain ⟨e1178, rfl⟩ := hp1177
                refine pd_bne (tgt := 214) hx hb d_p1m14_198 (by decide) (fun q1179 => ?_) (fun q1179 => ?_)
                · -- taken: 214
                  refine lv_bipush (v := -4) hx hb d_p1m14_214 (by decide) ?_
                  have hup : gr_up n R cs false = some 0 := if_neg (by omega)
                  have hfi : gr_find R n (gr_w cs 4) = none := q925
                  have hse : gr_find R n (gr_w cs 5) = some i933 := q931
                  have hhd : gr_hd n R cs false 4 (some 0) (none) (some i933) = .inl (-4) := by rw [gr_hd_s, if_neg (by simp; omega), if_neg (by rw [q1147]; simp), if_pos (Or.inr (Or.inl (e1178.symm.trans q1179)))]
                  have hg : gr_dc n R cs false (if false = true then 3 else 4) = ((-4), n, R) := by show gr_dc n R cs false 4 = _; unfold gr_dc; rw [hup, hfi, hse, hhd]
                  exact pd_iret (v := (-4)) X w ⟨by rw [hg], pd_kx.mono (us := [6, 7, 8, 9, 10]) (pd_kx.tr (pd_kx.tr (k859) (k892)) (k1111)) (by simp), A, (by rw [hg]; exact ⟨lb, cl, me, ru, bk, f1122, hz_x, f1131, f1132, f1133, f1134, f1135, ht60⟩)⟩ (by decide) (by decide) d_p1m14_216
                · -- not taken: 201
                  refine lv_aload hx hb d_p1m14_201 (lv_at hl 3 rfl) ?_
                  refine pd_cS (As := [.ref (A i933)]) (rest := []) X w (c_PolicyDesk_isPlainClass l G h1109 (A := A) (n := n) (R := R) (o := some i933) (by assumption) (fun t ht => by cases ht; omega)) ok_PolicyDesk_isPlainClass mT_778 mT_777 ⟨by decide, by decide⟩ rfl hl.1 rfl (Nat.le_of_ble_eq_true rfl) d_p1m14_203 ⟨by decide, by decide⟩ (fun r1180 h1181 H locs hp1182 w => ?_)
                  refine W.widen (k := 6) (n := 192) (by decide) (by decide) ?_
                  obtain ⟨e1183, rfl⟩ := hp1182
                  refine pd_bne (tgt := 214) hx hb d_p1m14_206 (by decide) (fun q1184 => ?_) (fun q1184 => ?_)
                  · -- taken: 214
                    refine lv_bipush (v := -4) hx hb d_p1m14_214 (by decide) ?_
                    have hup : gr_up n R cs false = some 0 := if_neg (by omega)
                    have hfi : gr_find R n (gr_w cs 4) = none := q925
                    have hse : gr_find R n (gr_w cs 5) = some i933 := q931
                    have hhd : gr_hd n R cs false 4 (some 0) (none) (some i933) = .inl (-4) := by rw [gr_hd_s, if_neg (by simp; omega), if_neg (by rw [q1147]; simp), if_pos (Or.inr (Or.inr (Or.inl (e1183.symm.trans q1184))))]
                    have hg : gr_dc n R cs false (if false = true then 3 else 4) = ((-4), n, R) := by show gr_dc n R cs false 4 = _; unfold gr_dc; rw [hup, hfi, hse, hhd]
                    exact pd_iret (v := (-4)) X w ⟨by rw [hg], pd_kx.mono (us := [6, 7, 8, 9, 10]) (pd_kx.tr (pd_kx.tr (k859) (k892)) (k1111)) (by simp), A, (by rw [hg]; exact ⟨lb, cl, me, ru, bk, f1122, hz_x, f1131, f1132, f1133, f1134, f1135, ht60⟩)⟩ (by decide) (by decide) d_p1m14_216
                  · -- not taken: 209
                    refine lv_iload hx hb d_p1m14_209 (lv_at hl 0 rfl) ?_
                    refine pd_zeq (tgt := 217) hx hb d_p1m14_211 (by decide) (by decide) (fun _ => ?_) (fun q => absurd q (by decide))
                    refine lv_aload_n hx hb d_p1m14_217 rfl (lv_at hl 8 rfl) ?_
                    refine pd_get X w f1122 rfl 1 (by decide) mT_368 rfl rfl d_p1m14_218 ?_
                    refine lv_aload_n hx hb d_p1m14_221 rfl (lv_at hl 9 rfl) ?_
                    refine lv_iconst (v := nI 1) hx hb d_p1m14_222 (by decide) ?_
                    refine pd_cV (a := y) (As := [.int (nI 1)]) (rest := [.ref cl]) X w f1123 rfl (c_Line_word l G h1109 (by assumption) (by omega)) ok_Line_word ⟨mT_574, mT_575⟩ mT_573 ⟨by decide, by decide⟩ rfl hl.1 rfl (Nat.le_of_ble_eq_true rfl) d_p1m14_223 ⟨by decide, by decide⟩ (fun r1186 h1187 H locs hp1188 w => ?_)
                    refine W.widen (k := 8) (n := 256) (by decide) (by decide) ?_
                    obtain ⟨k1189, ds1190, e1191, f1192⟩ := hp1188
                    have f1200 := k1189 _ _ f1122 List.not_mem_nil
                    have f1201 := k1189 _ _ f1123 List.not_mem_nil
                    have f1202 := k1189 _ _ f1124 List.not_mem_nil
                    have f1203 := k1189 _ _ f1125 List.not_mem_nil
                    have f1204 := k1189 _ _ f1126 List.not_mem_nil
                    have f1205 := k1189 _ _ f1127 List.not_mem_nil
                    have f1206 := k1189 _ _ f1117 List.not_mem_nil
                    have f1207 := k1189 _ _ f1155 List.not_mem_nil
                    have f1208 := k1189 _ _ f1160 List.not_mem_nil
                    have f1209 := k1189 _ _ f1168 List.not_mem_nil
                    have f1210 := k1189 _ _ f1128 List.not_mem_nil
                    have f1211 := k1189 _ _ f1129 List.not_mem_nil
                    have f1212 := k1189 _ _ f1130 List.not_mem_nil
                    have f1213 := k1189 _ _ f1118 List.not_mem_nil
                    have f1214 := k1189 _ _ f1161 List.not_mem_nil
                    have f1215 := f1131.kx k1189 List.not_mem_nil List.not_mem_nil
                    have f1216 := f1132.kx k1189 List.not_mem_nil List.not_mem_nil List.not_mem_nil
                    have f1217 := f1133.kx k1189 List.not_mem_nil List.not_mem_nil List.not_mem_nil
                    have f1218 := f1134.kx k1189 List.not_mem_nil List.not_mem_nil List.not_mem_nil
                    have f1219 := f1135.kx k1189 List.not_mem_nil List.not_mem_nil List.not_mem_nil List.not_mem_nil List.not_mem_nil
                    have f1220 := f1136.kx k1189 List.not_mem_nil
                    have f1221 := f1137.kx k1189 List.not_mem_nil
                    have f1222 := f1138.kx k1189 List.not_mem_nil
                    have f1223 := f1139.kx k1189 List.not_mem_nil
                    have f1224 := f1140.kx k1189 List.not_mem_nil
                    have f1225 := f1141.kx k1189 List.not_mem_nil
                    have f1226 := f1142.kx k1189 List.not_mem_nil
                    have f1227 := f1114.kx k1189 List.not_mem_nil
                    have f1228 := f1156.kx k1189 List.not_mem_nil
                    have f1229 := f1157.kx k1189 List.not_mem_nil List.not_mem_nil List.not_mem_nil
                    obtain ⟨v1193, g1194, f1195, f1196, gf1197, gc1198, gl1199⟩ := id f1192
                    subst e1191
                    refine lv_iload_n hx hb d_p1m14_226 rfl (lv_at hl 10 rfl) ?_
                    refine lv_aload hx hb d_p1m14_227 (lv_at hl 5 rfl) ?_
                    refine lv_aloadN hx hb d_p1m14_229 (lv_at hl 4 rfl) ?_
                    refine lv_aload hx hb d_p1m14_231 (lv_at hl 3 rfl) ?_
                    refine pd_cV (a := cl) (As := [.ref r1186, .int (nI 0), .ref (A 0), .null, .ref (A i933)]) (rest := []) X w f1203 rfl (c_Classes_add l G h1187 (A := A) (n := n) (R := R) (bi := false) (ab := some 0) (fi := none) (se := some i933) (by assumption) (by assumption) (fun t ht => by cases ht; omega) (fun t ht => by cases ht) (fun t ht => by cases ht; omega)) ok_Classes_add ⟨mT_781, mT_782⟩ mT_780 ⟨by decide, by decide⟩ rfl hl.1 rfl (Nat.le_of_ble_eq_true rfl) d_p1m14_233 ⟨by decide, by decide⟩ (fun r1230 h1231 H locs hp1232 w => ?_)
                    refine W.widen (k := 38) (n := 688) (by decide) (by decide) ?_
                    obtain ⟨k1233, e1234, A1235, ag1236, f1237⟩ := hp1232
                    have f1238 := k1233 _ _ f1200 (show (5 : Nat) ∉ [6, 7, 8, 9, 10] by decide)
                    have f1239 := k1233 _ _ f1201 (show (0 : Nat) ∉ [6, 7, 8, 9, 10] by decide)
                    have f1240 := k1233 _ _ f1202 (show (0 : Nat) ∉ [6, 7, 8, 9, 10] by decide)
                    have f1241 := k1233 _ _ f1204 (show (0 : Nat) ∉ [6, 7, 8, 9, 10] by decide)
                    have f1242 := k1233 _ _ f1205 (show (0 : Nat) ∉ [6, 7, 8, 9, 10] by decide)
                    have f1243 := k1233 _ _ f1206 (show (0 : Nat) ∉ [6, 7, 8, 9, 10] by decide)
                    have f1244 := k1233 _ _ f1207 (show (0 : Nat) ∉ [6, 7, 8, 9, 10] by decide)
                    have f1245 := k1233 _ _ f1208 (show (0 : Nat) ∉ [6, 7, 8, 9, 10] by decide)
                    have f1246 := k1233 _ _ f1209 (show (0 : Nat) ∉ [6, 7, 8, 9, 10] by decide)
                    have f1247 := k1233 _ _ f1195 (show (0 : Nat) ∉ [6, 7, 8, 9, 10] by decide)
                    have f1248 := k1233 _ _ f1210 (show (0 : Nat) ∉ [6, 7, 8, 9, 10] by decide)
                    have f1249 := k1233 _ _ f1211 (show (0 : Nat) ∉ [6, 7, 8, 9, 10] by decide)
                    have f1250 := k1233 _ _ f1212 (show (0 : Nat) ∉ [6, 7, 8, 9, 10] by decide)
                    have f1251 := k1233 _ _ f1213 (show (0 : Nat) ∉ [6, 7, 8, 9, 10] by decide)
                    have f1252 := k1233 _ _ f1214 (show (0 : Nat) ∉ [6, 7, 8, 9, 10] by decide)
                    have f1253 := k1233 _ _ f1196 (show (0 : Nat) ∉ [6, 7, 8, 9, 10] by decide)
                    have f1254 := f1215.kx k1233 (show (1 : Nat) ∉ [6, 7, 8, 9, 10] by decide) (show (2 : Nat) ∉ [6, 7, 8, 9, 10] by decide)
                    have f1255 := f1217.kx k1233 (show (11 : Nat) ∉ [6, 7, 8, 9, 10] by decide) (show (12 : Nat) ∉ [6, 7, 8, 9, 10] by decide) (show (0 : Nat) ∉ [6, 7, 8, 9, 10] by decide)
                    have f1256 := f1218.kx k1233 (show (13 : Nat) ∉ [6, 7, 8, 9, 10] by decide) (show (14 : Nat) ∉ [6, 7, 8, 9, 10] by decide) (show (0 : Nat) ∉ [6, 7, 8, 9, 10] by decide)
                    have f1257 := f1219.kx k1233 (show (15 : Nat) ∉ [6, 7, 8, 9, 10] by decide) (show (16 : Nat) ∉ [6, 7, 8, 9, 10] by decide) (show (17 : Nat) ∉ [6, 7, 8, 9, 10] by decide) (show (3 : Nat) ∉ [6, 7, 8, 9, 10] by decide) (show (4 : Nat) ∉ [6, 7, 8, 9, 10] by decide)
                    have f1258 := f1221.kx k1233 (show (0 : Nat) ∉ [6, 7, 8, 9, 10] by decide)
                    have f1259 := f1222.kx k1233 (show (0 : Nat) ∉ [6, 7, 8, 9, 10] by decide)
                    have f1260 := f1223.kx k1233 (show (0 : Nat) ∉ [6, 7, 8, 9, 10] by decide)
                    have f1261 := f1224.kx k1233 (show (0 : Nat) ∉ [6, 7, 8, 9, 10] by decide)
                    have f1262 := f1225.kx k1233 (show (0 : Nat) ∉ [6, 7, 8, 9, 10] by decide)
                    have f1263 := f1226.kx k1233 (show (0 : Nat) ∉ [6, 7, 8, 9, 10] by decide)
                    have f1264 := f1227.kx k1233 (show (0 : Nat) ∉ [6, 7, 8, 9, 10] by decide)
                    have f1265 := f1228.kx k1233 (show (0 : Nat) ∉ [6, 7, 8, 9, 10] by decide)
                    have f1266 := f1229.kx k1233 (show (0 : Nat) ∉ [6, 7, 8, 9, 10] by decide) (show (0 : Nat) ∉ [6, 7, 8, 9, 10] by decide) (show (0 : Nat) ∉ [6, 7, 8, 9, 10] by decide)
                    have f1267 := f1192.kx k1233 (show (0 : Nat) ∉ [6, 7, 8, 9, 10] by decide)
                    have hup : gr_up n R cs false = some 0 := if_neg (by omega)
                    have hfi : gr_find R n (gr_w cs 4) = none := q925
                    have hse : gr_find R n (gr_w cs 5) = some i933 := q931
                    have hhd : gr_hd n R cs false 4 (some 0) (none) (some i933) = .inr 0 := by rw [gr_hd_s, if_neg (by simp; omega), if_neg (by rw [q1147]; simp), if_neg (fun h9 => by rcases h9 with h9 | h9 | h9 | h9; rw [q1174] at h9; cases h9; rw [← e1178, q1179] at h9; cases h9; rw [← e1183, q1184] at h9; cases h9; exact h9.1 rfl)]
                    have hg : gr_dc n R cs false (if false = true then 3 else 4) = gr_cadd n R (gr_row R n (gr_w cs 1) false (some 0) (none) (some i933)) := by show gr_dc n R cs false 4 = _; unfold gr_dc; rw [hup, hfi, hse, hhd]
                    exact pd_iret (v := r1230) X w ⟨by rw [hg]; exact e1234, pd_kx.tr (pd_kx.mono (us := [6, 7, 8, 9, 10]) (pd_kx.tr (pd_kx.tr (pd_kx.tr (k859) (k892)) (k1111)) (k1189)) (by simp)) (k1233), A1235, (by rw [hg]; exact ⟨lb, cl, me, ru, bk, f1238, hz_x, f1254, f1237, (pd_Mems.ag f1255 ag1236 gr_cadd_le), f1256, f1257, ht60⟩)⟩ (by decide) (by decide) d_p1m14_236
            · -- some
              refine pd_top (v' := .ref (A i1149)) (by rw [q1150]; rfl) ?_
              have hl : lv_has ls 11 [(9, .int (nI 0)), (8, .int (nI 0)), (7, .ref (A i933)), (6, .null), (5, .ref (A 0)), (4, .int (nI 0)), (3, .int (nI 4)), (0, .ref x), (1, .ref y), (2, .int (nI 0))] := hl
              have i1149lt := gr_fi_lt q1147
              refine lv_ifnull hx hb d_p1m14_160 ?_
              refine lv_bipush (v := -3) hx hb d_p1m14_163 (by decide) ?_
              have hup : gr_up n R cs false = some 0 := if_neg (by omega)
              have hfi : gr_find R n (gr_w cs 4) = none := q925
              have hse : gr_find R n (gr_w cs 5) = some i933 := q931
              have hhd : gr_hd n R cs false 4 (some 0) (none) (some i933) = .inl (-3) := by rw [gr_hd_s, if_neg (by simp; omega), if_pos (by rw [q1147]; simp)]
              have hg : gr_dc n R cs false (if false = true then 3 else 4) = ((-3), n, R) := by show gr_dc n R cs false 4 = _; unfold gr_dc; rw [hup, hfi, hse, hhd]
              exact pd_iret (v := (-3)) X w ⟨by rw [hg], pd_kx.mono (us := [6, 7, 8, 9, 10]) (pd_kx.tr (pd_kx.tr (k859) (k892)) (k1111)) (by simp), A, (by rw [hg]; exact ⟨lb, cl, me, ru, bk, f1122, hz_x, f1131, f1132, f1133, f1134, f1135, ht60⟩)⟩ (by decide) (by decide) d_p1m14_165
        · -- not taken: 101
          refine lv_iconst (v := nI 1) hx hb d_p1m14_101 (by decide) ?_
          refine lv_goto (tgt := 106) hx hb d_p1m14_102 (by decide) ?_
          refine lv_istore (lv' := [(8, .int (nI 1)), (7, va_rf r921), (6, .null), (5, .ref (A 0)), (4, .int (nI 0)), (3, .int (nI 4)), (0, .ref x), (1, .ref y), (2, .int (nI 0))]) hx hb d_p1m14_106 hl (by decide) (by simp [pd_cat]) (fun ls hl => ?_)
          refine pd_oload hx hb d_p1m14_108 (lv_at hl 1 rfl) ?_
          rcases pd_om e924 with ⟨q1269, q1272⟩ | ⟨i1271, q1269, q1272⟩
          · -- none
            refine pd_top (v' := .null) (by rw [q1272]; rfl) ?_
            rw [q1272] at hl
            have hl : lv_has ls 11 [(8, .int (nI 1)), (7, .null), (6, .null), (5, .ref (A 0)), (4, .int (nI 0)), (3, .int (nI 4)), (0, .ref x), (1, .ref y), (2, .int (nI 0))] := hl
            refine lv_ifnonnullN hx hb d_p1m14_110 ?_
            refine lv_aload_n hx hb d_p1m14_113 rfl (lv_at hl 7 rfl) ?_
            refine pd_get X w f904 rfl 1 (by decide) mT_544 rfl rfl d_p1m14_114 ?_
            refine lv_iload_n hx hb d_p1m14_117 rfl (lv_at hl 5 rfl) ?_
            refine lv_iconst (v := nI 1) hx hb d_p1m14_118 (by decide) ?_
            refine pd_iadd hx hb d_p1m14_119 ?_
            refine pd_jle (tgt := 127) hx hb d_p1m14_120 (by decide) (by omega) (by omega) (fun q1274 => ?_) (fun q1274 => ?_)
            · -- taken: 127
              refine lv_iconst (v := nI 0) hx hb d_p1m14_127 (by decide) ?_
              refine lv_istore (lv' := [(9, .int (nI 0)), (8, .int (nI 1)), (7, .null), (6, .null), (5, .ref (A 0)), (4, .int (nI 0)), (3, .int (nI 4)), (0, .ref x), (1, .ref y), (2, .int (nI 0))]) hx hb d_p1m14_128 hl (by decide) rfl (fun ls hl => ?_)
              refine lv_aload hx hb d_p1m14_130 (lv_at hl 4 rfl) ?_
              refine lv_ifnull hx hb d_p1m14_132 ?_
              refine lv_iload hx hb d_p1m14_135 (lv_at hl 1 rfl) ?_
              refine pd_zne (tgt := 145) hx hb d_p1m14_137 (by decide) (by decide) (fun _ => ?_) (fun q => absurd q (by decide))
              refine lv_bipush (v := -2) hx hb d_p1m14_145 (by decide) ?_
              have hup : gr_up n R cs false = some 0 := if_neg (by omega)
              have hfi : gr_find R n (gr_w cs 4) = none := q925
              have hse : gr_find R n (gr_w cs 5) = none := q1269
              have hhd : gr_hd n R cs false 4 (some 0) (none) (none) = .inl (-2) := by rw [gr_hd_s, if_pos (by simp; omega)]
              have hg : gr_dc n R cs false (if false = true then 3 else 4) = ((-2), n, R) := by show gr_dc n R cs false 4 = _; unfold gr_dc; rw [hup, hfi, hse, hhd]
              exact pd_iret (v := (-2)) X w ⟨by rw [hg], pd_kx.mono (us := [6, 7, 8, 9, 10]) (pd_kx.tr (k859) (k892)) (by simp), A, (by rw [hg]; exact ⟨lb, cl, me, ru, bk, f903, hz_x, f910, f911, f912, f913, f914, ht60⟩)⟩ (by decide) (by decide) d_p1m14_147
            · -- not taken: 123
              refine lv_iconst (v := nI 1) hx hb d_p1m14_123 (by decide) ?_
              refine lv_goto (tgt := 128) hx hb d_p1m14_124 (by decide) ?_
              refine lv_istore (lv' := [(9, .int (nI 1)), (8, .int (nI 1)), (7, .null), (6, .null), (5, .ref (A 0)), (4, .int (nI 0)), (3, .int (nI 4)), (0, .ref x), (1, .ref y), (2, .int (nI 0))]) hx hb d_p1m14_128 hl (by decide) rfl (fun ls hl => ?_)
              refine lv_aload hx hb d_p1m14_130 (lv_at hl 4 rfl) ?_
              refine lv_ifnull hx hb d_p1m14_132 ?_
              refine lv_iload hx hb d_p1m14_135 (lv_at hl 1 rfl) ?_
              refine pd_zne (tgt := 145) hx hb d_p1m14_137 (by decide) (by decide) (fun _ => ?_) (fun q => absurd q (by decide))
              refine lv_bipush (v := -2) hx hb d_p1m14_145 (by decide) ?_
              have hup : gr_up n R cs false = some 0 := if_neg (by omega)
              have hfi : gr_find R n (gr_w cs 4) = none := q925
              have hse : gr_find R n (gr_w cs 5) = none := q1269
              have hhd : gr_hd n R cs false 4 (some 0) (none) (none) = .inl (-2) := by rw [gr_hd_s, if_pos (by simp; omega)]
              have hg : gr_dc n R cs false (if false = true then 3 else 4) = ((-2), n, R) := by show gr_dc n R cs false 4 = _; unfold gr_dc; rw [hup, hfi, hse, hhd]
              exact pd_iret (v := (-2)) X w ⟨by rw [hg], pd_kx.mono (us := [6, 7, 8, 9, 10]) (pd_kx.tr (k859) (k892)) (by simp), A, (by rw [hg]; exact ⟨lb, cl, me, ru, bk, f903, hz_x, f910, f911, f912, f913, f914, ht60⟩)⟩ (by decide) (by decide) d_p1m14_147
          · -- some
            refine pd_top (v' := .ref (A i1271)) (by rw [q1272]; rfl) ?_
            rw [q1272] at hl
            have hl : lv_has ls 11 [(8, .int (nI 1)), (7, .ref (A i1271)), (6, .null), (5, .ref (A 0)), (4, .int (nI 0)), (3, .int (nI 4)), (0, .ref x), (1, .ref y), (2, .int (nI 0))] := hl
            have i1271lt := gr_fi_lt q1269
            refine lv_ifnonnull (tgt := 127) hx hb d_p1m14_110 (by decide) ?_
            refine lv_iconst (v := nI 0) hx hb d_p1m14_127 (by decide) ?_
            refine lv_istore (lv' := [(9, .int (nI 0)), (8, .int (nI 1)), (7, .ref (A i1271)), (6, .null), (5, .ref (A 0)), (4, .int (nI 0)), (3, .int (nI 4)), (0, .ref x), (1, .ref y), (2, .int (nI 0))]) hx hb d_p1m14_128 hl (by decide) rfl (fun ls hl => ?_)
            refine lv_aload hx hb d_p1m14_130 (lv_at hl 4 rfl) ?_
            refine lv_ifnull hx hb d_p1m14_132 ?_
            refine lv_iload hx hb d_p1m14_135 (lv_at hl 1 rfl) ?_
            refine pd_zne (tgt := 145) hx hb d_p1m14_137 (by decide) (by decide) (fun _ => ?_) (fun q => absurd q (by decide))
            refine lv_bipush (v := -2) hx hb d_p1m14_145 (by decide) ?_
            have hup : gr_up n R cs false = some 0 := if_neg (by omega)
            have hfi : gr_find R n (gr_w cs 4) = none := q925
            have hse : gr_find R n (gr_w cs 5) = some i1271 := q1269
            have hhd : gr_hd n R cs false 4 (some 0) (none) (some i1271) = .inl (-2) := by rw [gr_hd_s, if_pos (by simp; omega)]
            have hg : gr_dc n R cs false (if false = true then 3 else 4) = ((-2), n, R) := by show gr_dc n R cs false 4 = _; unfold gr_dc; rw [hup, hfi, hse, hhd]
            exact pd_iret (v := (-2)) X w ⟨by rw [hg], pd_kx.mono (us := [6, 7, 8, 9, 10]) (pd_kx.tr (k859) (k892)) (by simp), A, (by rw [hg]; exact ⟨lb, cl, me, ru, bk, f903, hz_x, f910, f911, f912, f913, f914, ht60⟩)⟩ (by decide) (by decide) d_p1m14_147
      · -- some
        refine pd_top (v' := .ref (A i927)) (by rw [q928]; rfl) ?_
        rw [q928] at hl
        have hl : lv_has ls 11 [(7, va_rf r921), (6, .ref (A i927)), (5, .ref (A 0)), (4, .int (nI 0)), (3, .int (nI 4)), (0, .ref x), (1, .ref y), (2, .int (nI 0))] := hl
        have i927lt := gr_fi_lt q925
        refine lv_ifnonnull (tgt := 105) hx hb d_p1m14_90 (by decide) ?_
        refine lv_iconst (v := nI 0) hx hb d_p1m14_105 (by decide) ?_
        refine lv_istore (lv' := [(8, .int (nI 0)), (7, va_rf r921), (6, .ref (A i927)), (5, .ref (A 0)), (4, .int (nI 0)), (3, .int (nI 4)), (0, .ref x), (1, .ref y), (2, .int (nI 0))]) hx hb d_p1m14_106 hl (by decide) (by simp [pd_cat]) (fun ls hl => ?_)
        refine pd_oload hx hb d_p1m14_108 (lv_at hl 1 rfl) ?_
        rcases pd_om e924 with ⟨q1283, q1286⟩ | ⟨i1285, q1283, q1286⟩
        · -- none
          refine pd_top (v' := .null) (by rw [q1286]; rfl) ?_
          rw [q1286] at hl
          have hl : lv_has ls 11 [(8, .int (nI 0)), (7, .null), (6, .ref (A i927)), (5, .ref (A 0)), (4, .int (nI 0)), (3, .int (nI 4)), (0, .ref x), (1, .ref y), (2, .int (nI 0))] := hl
          refine lv_ifnonnullN hx hb d_p1m14_110 ?_
          refine lv_aload_n hx hb d_p1m14_113 rfl (lv_at hl 7 rfl) ?_
          refine pd_get X w f904 rfl 1 (by decide) mT_544 rfl rfl d_p1m14_114 ?_
          refine lv_iload_n hx hb d_p1m14_117 rfl (lv_at hl 5 rfl) ?_
          refine lv_iconst (v := nI 1) hx hb d_p1m14_118 (by decide) ?_
          refine pd_iadd hx hb d_p1m14_119 ?_
          refine pd_jle (tgt := 127) hx hb d_p1m14_120 (by decide) (by omega) (by omega) (fun q1288 => ?_) (fun q1288 => ?_)
          · -- taken: 127
            refine lv_iconst (v := nI 0) hx hb d_p1m14_127 (by decide) ?_
            refine lv_istore (lv' := [(9, .int (nI 0)), (8, .int (nI 0)), (7, .null), (6, .ref (A i927)), (5, .ref (A 0)), (4, .int (nI 0)), (3, .int (nI 4)), (0, .ref x), (1, .ref y), (2, .int (nI 0))]) hx hb d_p1m14_128 hl (by decide) rfl (fun ls hl => ?_)
            refine lv_aload hx hb d_p1m14_130 (lv_at hl 4 rfl) ?_
            refine lv_ifnull hx hb d_p1m14_132 ?_
            refine lv_iload hx hb d_p1m14_135 (lv_at hl 1 rfl) ?_
            refine pd_zne (tgt := 145) hx hb d_p1m14_137 (by decide) (by decide) (fun q => absurd q (by decide)) (fun _ => ?_)
            refine lv_iload hx hb d_p1m14_140 (lv_at hl 0 rfl) ?_
            refine pd_zeq (tgt := 148) hx hb d_p1m14_142 (by decide) (by decide) (fun _ => ?_) (fun q => absurd q (by decide))
            refine lv_aload_n hx hb d_p1m14_148 rfl (lv_at hl 7 rfl) ?_
            refine pd_get X w f903 rfl 1 (by decide) mT_368 rfl rfl d_p1m14_149 ?_
            refine lv_aload_n hx hb d_p1m14_152 rfl (lv_at hl 8 rfl) ?_
            refine lv_iconst (v := nI 1) hx hb d_p1m14_153 (by decide) ?_
            refine pd_cV (a := y) (As := [.int (nI 1)]) (rest := [.ref cl]) X w f904 rfl (c_Line_word l G h890 (by assumption) (by omega)) ok_Line_word ⟨mT_574, mT_575⟩ mT_573 ⟨by decide, by decide⟩ rfl hl.1 rfl (Nat.le_of_ble_eq_true rfl) d_p1m14_154 ⟨by decide, by decide⟩ (fun r1292 h1293 H locs hp1294 w => ?_)
            refine W.widen (k := 6) (n := 192) (by decide) (by decide) ?_
            obtain ⟨k1295, ds1296, e1297, f1298⟩ := hp1294
            have f1306 := k1295 _ _ f903 List.not_mem_nil
            have f1307 := k1295 _ _ f904 List.not_mem_nil
            have f1308 := k1295 _ _ f905 List.not_mem_nil
            have f1309 := k1295 _ _ f906 List.not_mem_nil
            have f1310 := k1295 _ _ f907 List.not_mem_nil
            have f1311 := k1295 _ _ f898 List.not_mem_nil
            have f1312 := k1295 _ _ f908 List.not_mem_nil
            have f1313 := k1295 _ _ f909 List.not_mem_nil
            have f1314 := k1295 _ _ f899 List.not_mem_nil
            have f1315 := f910.kx k1295 List.not_mem_nil List.not_mem_nil
            have f1316 := f911.kx k1295 List.not_mem_nil List.not_mem_nil List.not_mem_nil
            have f1317 := f912.kx k1295 List.not_mem_nil List.not_mem_nil List.not_mem_nil
            have f1318 := f913.kx k1295 List.not_mem_nil List.not_mem_nil List.not_mem_nil
            have f1319 := f914.kx k1295 List.not_mem_nil List.not_mem_nil List.not_mem_nil List.not_mem_nil List.not_mem_nil
            have f1320 := f915.kx k1295 List.not_mem_nil
            have f1321 := f916.kx k1295 List.not_mem_nil
            have f1322 := f917.kx k1295 List.not_mem_nil
            have f1323 := f918.kx k1295 List.not_mem_nil
            have f1324 := f919.kx k1295 List.not_mem_nil
            have f1325 := f920.kx k1295 List.not_mem_nil
            have f1326 := f895.kx k1295 List.not_mem_nil
            obtain ⟨v1299, g1300, f1301, f1302, gf1303, gc1304, gl1305⟩ := id f1298
            subst e1297
            refine pd_cV (a := cl) (As := [.ref r1292]) (rest := []) X w f1309 rfl (c_Classes_find l G h1293 (by assumption) (by assumption)) ok_Classes_find ⟨mT_773, mT_774⟩ mT_772 ⟨by decide, by decide⟩ rfl hl.1 rfl (Nat.le_of_ble_eq_true rfl) d_p1m14_157 ⟨by decide, by decide⟩ (fun r1327 h1328 H locs hp1329 w => ?_)
            refine W.widen (k := 6) (n := 192) (by decide) (by decide) ?_
            obtain ⟨e1330, rfl⟩ := hp1329
            rcases pd_om e1330 with ⟨q1331, q1334⟩ | ⟨i1333, q1331, q1334⟩
            · -- none
              refine pd_top (v' := .null) (by rw [q1334]; rfl) ?_
              have hl : lv_has ls 11 [(9, .int (nI 0)), (8, .int (nI 0)), (7, .null), (6, .ref (A i927)), (5, .ref (A 0)), (4, .int (nI 0)), (3, .int (nI 4)), (0, .ref x), (1, .ref y), (2, .int (nI 0))] := hl
              refine lv_ifnullN (tgt := 166) hx hb d_p1m14_160 (by decide) ?_
              refine lv_aload hx hb d_p1m14_166 (lv_at hl 3 rfl) ?_
              refine lv_ifnull hx hb d_p1m14_168 ?_
              refine lv_aload hx hb d_p1m14_171 (lv_at hl 3 rfl) ?_
              refine lv_aloadN hx hb d_p1m14_173 (lv_at hl 2 rfl) ?_
              refine lv_acmp_ne (rx := (some (A i927))) (ry := none) (tgt := 182) hx hb d_p1m14_175 (by decide) (fun _ => ?_) (fun q => absurd q (by simp))
              refine lv_iconst (v := nI 0) hx hb d_p1m14_182 (by decide) ?_
              refine lv_istore (lv' := [(10, .int (nI 0)), (9, .int (nI 0)), (8, .int (nI 0)), (7, .null), (6, .ref (A i927)), (5, .ref (A 0)), (4, .int (nI 0)), (3, .int (nI 4)), (0, .ref x), (1, .ref y), (2, .int (nI 0))]) hx hb d_p1m14_183 hl (by decide) rfl (fun ls hl => ?_)
              refine lv_aload hx hb d_p1m14_185 (lv_at hl 5 rfl) ?_
              obtain ⟨nm1338, fx1339, f1340, f1341, f1342⟩ := f1320.1 0 (by omega)
              obtain ⟨v1343, g1344, f1345, f1346, gf1347, gc1348, gl1349⟩ := id f1341
              obtain ⟨v1350, cap1351, g1352, f1353, z1354, z1355, z1356, z1357, z1358⟩ := id f1342
              refine pd_get X w f1340 rfl 2 (by decide) mT_260 rfl rfl d_p1m14_187 ?_
              refine pd_bne (tgt := 214) hx hb d_p1m14_190 (by decide) (fun q1359 => ?_) (fun q1359 => ?_)
              · -- taken: 214
                refine lv_bipush (v := -4) hx hb d_p1m14_214 (by decide) ?_
                have hup : gr_up n R cs false = some 0 := if_neg (by omega)
                have hfi : gr_find R n (gr_w cs 4) = some i927 := q925
                have hse : gr_find R n (gr_w cs 5) = none := q1283
                have hhd : gr_hd n R cs false 4 (some 0) (some i927) (none) = .inl (-4) := by rw [gr_hd_s, if_neg (by simp; omega), if_neg (by rw [q1331]; simp), if_pos (Or.inl q1359)]
                have hg : gr_dc n R cs false (if false = true then 3 else 4) = ((-4), n, R) := by show gr_dc n R cs false 4 = _; unfold gr_dc; rw [hup, hfi, hse, hhd]
                exact pd_iret (v := (-4)) X w ⟨by rw [hg], pd_kx.mono (us := [6, 7, 8, 9, 10]) (pd_kx.tr (pd_kx.tr (k859) (k892)) (k1295)) (by simp), A, (by rw [hg]; exact ⟨lb, cl, me, ru, bk, f1306, hz_x, f1315, f1316, f1317, f1318, f1319, ht60⟩)⟩ (by decide) (by decide) d_p1m14_216
              · -- not taken: 193
                refine lv_aload hx hb d_p1m14_193 (lv_at hl 4 rfl) ?_
                refine pd_cS (As := [.ref (A i927)]) (rest := []) X w (c_PolicyDesk_isPlainClass l G h1293 (A := A) (n := n) (R := R) (o := some i927) (by assumption) (fun t ht => by cases ht; omega)) ok_PolicyDesk_isPlainClass mT_778 mT_777 ⟨by decide, by decide⟩ rfl hl.1 rfl (Nat.le_of_ble_eq_true rfl) d_p1m14_195 ⟨by decide, by decide⟩ (fun r1360 h1361 H locs hp1362 w => ?_)
                refine W.widen (k := 6) (n := 192) (by decide) (by decide) ?_
                obtain ⟨e1363, rfl⟩ := hp1362
                refine pd_bne (tgt := 214) hx hb d_p1m14_198 (by decide) (fun q1364 => ?_) (fun q1364 => ?_)
                · -- taken: 214
                  refine lv_bipush (v := -4) hx hb d_p1m14_214 (by decide) ?_
                  have hup : gr_up n R cs false = some 0 := if_neg (by omega)
                  have hfi : gr_find R n (gr_w cs 4) = some i927 := q925
                  have hse : gr_find R n (gr_w cs 5) = none := q1283
                  have hhd : gr_hd n R cs false 4 (some 0) (some i927) (none) = .inl (-4) := by rw [gr_hd_s, if_neg (by simp; omega), if_neg (by rw [q1331]; simp), if_pos (Or.inr (Or.inl (e1363.symm.trans q1364)))]
                  have hg : gr_dc n R cs false (if false = true then 3 else 4) = ((-4), n, R) := by show gr_dc n R cs false 4 = _; unfold gr_dc; rw [hup, hfi, hse, hhd]
                  exact pd_iret (v := (-4)) X w ⟨by rw [hg], pd_kx.mono (us := [6, 7, 8, 9, 10]) (pd_kx.tr (pd_kx.tr (k859) (k892)) (k1295)) (by simp), A, (by rw [hg]; exact ⟨lb, cl, me, ru, bk, f1306, hz_x, f1315, f1316, f1317, f1318, f1319, ht60⟩)⟩ (by decide) (by decide) d_p1m14_216
                · -- not taken: 201
                  refine lv_aloadN hx hb d_p1m14_201 (lv_at hl 3 rfl) ?_
                  refine pd_cS (As := [.null]) (rest := []) X w (c_PolicyDesk_isPlainClass l G h1293 (A := A) (n := n) (R := R) (o := none) (by assumption) (fun t ht => by cases ht)) ok_PolicyDesk_isPlainClass mT_778 mT_777 ⟨by decide, by decide⟩ rfl hl.1 rfl (Nat.le_of_ble_eq_true rfl) d_p1m14_203 ⟨by decide, by decide⟩ (fun r1365 h1366 H locs hp1367 w => ?_)
                  refine W.widen (k := 6) (n := 192) (by decide) (by decide) ?_
                  obtain ⟨e1368, rfl⟩ := hp1367
                  refine pd_bne (tgt := 214) hx hb d_p1m14_206 (by decide) (fun q1369 => ?_) (fun q1369 => ?_)
                  · -- taken: 214
                    refine lv_bipush (v := -4) hx hb d_p1m14_214 (by decide) ?_
                    have hup : gr_up n R cs false = some 0 := if_neg (by omega)
                    have hfi : gr_find R n (gr_w cs 4) = some i927 := q925
                    have hse : gr_find R n (gr_w cs 5) = none := q1283
                    have hhd : gr_hd n R cs false 4 (some 0) (some i927) (none) = .inl (-4) := by rw [gr_hd_s, if_neg (by simp; omega), if_neg (by rw [q1331]; simp), if_pos (Or.inr (Or.inr (Or.inl (e1368.symm.trans q1369))))]
                    have hg : gr_dc n R cs false (if false = true then 3 else 4) = ((-4), n, R) := by show gr_dc n R cs false 4 = _; unfold gr_dc; rw [hup, hfi, hse, hhd]
                    exact pd_iret (v := (-4)) X w ⟨by rw [hg], pd_kx.mono (us := [6, 7, 8, 9, 10]) (pd_kx.tr (pd_kx.tr (k859) (k892)) (k1295)) (by simp), A, (by rw [hg]; exact ⟨lb, cl, me, ru, bk, f1306, hz_x, f1315, f1316, f1317, f1318, f1319, ht60⟩)⟩ (by decide) (by decide) d_p1m14_216
                  · -- not taken: 209
                    refine lv_iload hx hb d_p1m14_209 (lv_at hl 0 rfl) ?_
                    refine pd_zeq (tgt := 217) hx hb d_p1m14_211 (by decide) (by decide) (fun _ => ?_) (fun q => absurd q (by decide))
                    refine lv_aload_n hx hb d_p1m14_217 rfl (lv_at hl 8 rfl) ?_
                    refine pd_get X w f1306 rfl 1 (by decide) mT_368 rfl rfl d_p1m14_218 ?_
                    refine lv_aload_n hx hb d_p1m14_221 rfl (lv_at hl 9 rfl) ?_
                    refine lv_iconst (v := nI 1) hx hb d_p1m14_222 (by decide) ?_
                    refine pd_cV (a := y) (As := [.int (nI 1)]) (rest := [.ref cl]) X w f1307 rfl (c_Line_word l G h1293 (by assumption) (by omega)) ok_Line_word ⟨mT_574, mT_575⟩ mT_573 ⟨by decide, by decide⟩ rfl hl.1 rfl (Nat.le_of_ble_eq_true rfl) d_p1m14_223 ⟨by decide, by decide⟩ (fun r1371 h1372 H locs hp1373 w => ?_)
                    refine W.widen (k := 8) (n := 256) (by decide) (by decide) ?_
                    obtain ⟨k1374, ds1375, e1376, f1377⟩ := hp1373
                    have f1385 := k1374 _ _ f1306 List.not_mem_nil
                    have f1386 := k1374 _ _ f1307 List.not_mem_nil
                    have f1387 := k1374 _ _ f1308 List.not_mem_nil
                    have f1388 := k1374 _ _ f1309 List.not_mem_nil
                    have f1389 := k1374 _ _ f1310 List.not_mem_nil
                    have f1390 := k1374 _ _ f1311 List.not_mem_nil
                    have f1391 := k1374 _ _ f1301 List.not_mem_nil
                    have f1392 := k1374 _ _ f1340 List.not_mem_nil
                    have f1393 := k1374 _ _ f1345 List.not_mem_nil
                    have f1394 := k1374 _ _ f1353 List.not_mem_nil
                    have f1395 := k1374 _ _ f1312 List.not_mem_nil
                    have f1396 := k1374 _ _ f1313 List.not_mem_nil
                    have f1397 := k1374 _ _ f1314 List.not_mem_nil
                    have f1398 := k1374 _ _ f1302 List.not_mem_nil
                    have f1399 := k1374 _ _ f1346 List.not_mem_nil
                    have f1400 := f1315.kx k1374 List.not_mem_nil List.not_mem_nil
                    have f1401 := f1316.kx k1374 List.not_mem_nil List.not_mem_nil List.not_mem_nil
                    have f1402 := f1317.kx k1374 List.not_mem_nil List.not_mem_nil List.not_mem_nil
                    have f1403 := f1318.kx k1374 List.not_mem_nil List.not_mem_nil List.not_mem_nil
                    have f1404 := f1319.kx k1374 List.not_mem_nil List.not_mem_nil List.not_mem_nil List.not_mem_nil List.not_mem_nil
                    have f1405 := f1320.kx k1374 List.not_mem_nil
                    have f1406 := f1321.kx k1374 List.not_mem_nil
                    have f1407 := f1322.kx k1374 List.not_mem_nil
                    have f1408 := f1323.kx k1374 List.not_mem_nil
                    have f1409 := f1324.kx k1374 List.not_mem_nil
                    have f1410 := f1325.kx k1374 List.not_mem_nil
                    have f1411 := f1326.kx k1374 List.not_mem_nil
                    have f1412 := f1298.kx k1374 List.not_mem_nil
                    have f1413 := f1341.kx k1374 List.not_mem_nil
                    have f1414 := f1342.kx k1374 List.not_mem_nil List.not_mem_nil List.not_mem_nil
                    obtain ⟨v1378, g1379, f1380, f1381, gf1382, gc1383, gl1384⟩ := id f1377
                    subst e1376
                    refine lv_iload_n hx hb d_p1m14_226 rfl (lv_at hl 10 rfl) ?_
                    refine lv_aload hx hb d_p1m14_227 (lv_at hl 5 rfl) ?_
                    refine lv_aload hx hb d_p1m14_229 (lv_at hl 4 rfl) ?_
                    refine lv_aloadN hx hb d_p1m14_231 (lv_at hl 3 rfl) ?_
                    refine pd_cV (a := cl) (As := [.ref r1371, .int (nI 0), .ref (A 0), .ref (A i927), .null]) (rest := []) X w f1388 rfl (c_Classes_add l G h1372 (A := A) (n := n) (R := R) (bi := false) (ab := some 0) (fi := some i927) (se := none) (by assumption) (by assumption) (fun t ht => by cases ht; omega) (fun t ht => by cases ht; omega) (fun t ht => by cases ht)) ok_Classes_add ⟨mT_781, mT_782⟩ mT_780 ⟨by decide, by decide⟩ rfl hl.1 rfl (Nat.le_of_ble_eq_true rfl) d_p1m14_233 ⟨by decide, by decide⟩ (fun r1415 h1416 H locs hp1417 w => ?_)
                    refine W.widen (k := 38) (n := 688) (by decide) (by decide) ?_
                    obtain ⟨k1418, e1419, A1420, ag1421, f1422⟩ := hp1417
                    have f1423 := k1418 _ _ f1385 (show (5 : Nat) ∉ [6, 7, 8, 9, 10] by decide)
                    have f1424 := k1418 _ _ f1386 (show (0 : Nat) ∉ [6, 7, 8, 9, 10] by decide)
                    have f1425 := k1418 _ _ f1387 (show (0 : Nat) ∉ [6, 7, 8, 9, 10] by decide)
                    have f1426 := k1418 _ _ f1389 (show (0 : Nat) ∉ [6, 7, 8, 9, 10] by decide)
                    have f1427 := k1418 _ _ f1390 (show (0 : Nat) ∉ [6, 7, 8, 9, 10] by decide)
                    have f1428 := k1418 _ _ f1391 (show (0 : Nat) ∉ [6, 7, 8, 9, 10] by decide)
                    have f1429 := k1418 _ _ f1392 (show (0 : Nat) ∉ [6, 7, 8, 9, 10] by decide)
                    have f1430 := k1418 _ _ f1393 (show (0 : Nat) ∉ [6, 7, 8, 9, 10] by decide)
                    have f1431 := k1418 _ _ f1394 (show (0 : Nat) ∉ [6, 7, 8, 9, 10] by decide)
                    have f1432 := k1418 _ _ f1380 (show (0 : Nat) ∉ [6, 7, 8, 9, 10] by decide)
                    have f1433 := k1418 _ _ f1395 (show (0 : Nat) ∉ [6, 7, 8, 9, 10] by decide)
                    have f1434 := k1418 _ _ f1396 (show (0 : Nat) ∉ [6, 7, 8, 9, 10] by decide)
                    have f1435 := k1418 _ _ f1397 (show (0 : Nat) ∉ [6, 7, 8, 9, 10] by decide)
                    have f1436 := k1418 _ _ f1398 (show (0 : Nat) ∉ [6, 7, 8, 9, 10] by decide)
                    have f1437 := k1418 _ _ f1399 (show (0 : Nat) ∉ [6, 7, 8, 9, 10] by decide)
                    have f1438 := k1418 _ _ f1381 (show (0 : Nat) ∉ [6, 7, 8, 9, 10] by decide)
                    have f1439 := f1400.kx k1418 (show (1 : Nat) ∉ [6, 7, 8, 9, 10] by decide) (show (2 : Nat) ∉ [6, 7, 8, 9, 10] by decide)
                    have f1440 := f1402.kx k1418 (show (11 : Nat) ∉ [6, 7, 8, 9, 10] by decide) (show (12 : Nat) ∉ [6, 7, 8, 9, 10] by decide) (show (0 : Nat) ∉ [6, 7, 8, 9, 10] by decide)
                    have f1441 := f1403.kx k1418 (show (13 : Nat) ∉ [6, 7, 8, 9, 10] by decide) (show (14 : Nat) ∉ [6, 7, 8, 9, 10] by decide) (show (0 : Nat) ∉ [6, 7, 8, 9, 10] by decide)
                    have f1442 := f1404.kx k1418 (show (15 : Nat) ∉ [6, 7, 8, 9, 10] by decide) (show (16 : Nat) ∉ [6, 7, 8, 9, 10] by decide) (show (17 : Nat) ∉ [6, 7, 8, 9, 10] by decide) (show (3 : Nat) ∉ [6, 7, 8, 9, 10] by decide) (show (4 : Nat) ∉ [6, 7, 8, 9, 10] by decide)
                    have f1443 := f1406.kx k1418 (show (0 : Nat) ∉ [6, 7, 8, 9, 10] by decide)
                    have f1444 := f1407.kx k1418 (show (0 : Nat) ∉ [6, 7, 8, 9, 10] by decide)
                    have f1445 := f1408.kx k1418 (show (0 : Nat) ∉ [6, 7, 8, 9, 10] by decide)
                    have f1446 := f1409.kx k1418 (show (0 : Nat) ∉ [6, 7, 8, 9, 10] by decide)
                    have f1447 := f1410.kx k1418 (show (0 : Nat) ∉ [6, 7, 8, 9, 10] by decide)
                    have f1448 := f1411.kx k1418 (show (0 : Nat) ∉ [6, 7, 8, 9, 10] by decide)
                    have f1449 := f1412.kx k1418 (show (0 : Nat) ∉ [6, 7, 8, 9, 10] by decide)
                    have f1450 := f1413.kx k1418 (show (0 : Nat) ∉ [6, 7, 8, 9, 10] by decide)
                    have f1451 := f1414.kx k1418 (show (0 : Nat) ∉ [6, 7, 8, 9, 10] by decide) (show (0 : Nat) ∉ [6, 7, 8, 9, 10] by decide) (show (0 : Nat) ∉ [6, 7, 8, 9, 10] by decide)
                    have f1452 := f1377.kx k1418 (show (0 : Nat) ∉ [6, 7, 8, 9, 10] by decide)
                    have hup : gr_up n R cs false = some 0 := if_neg (by omega)
                    have hfi : gr_find R n (gr_w cs 4) = some i927 := q925
                    have hse : gr_find R n (gr_w cs 5) = none := q1283
                    have hhd : gr_hd n R cs false 4 (some 0) (some i927) (none) = .inr 0 := by rw [gr_hd_s, if_neg (by simp; omega), if_neg (by rw [q1331]; simp), if_neg (fun h9 => by rcases h9 with h9 | h9 | h9 | h9; rw [q1359] at h9; cases h9; rw [← e1363, q1364] at h9; cases h9; rw [← e1368, q1369] at h9; cases h9; exact absurd h9.2 (by simp))]
                    have hg : gr_dc n R cs false (if false = true then 3 else 4) = gr_cadd n R (gr_row R n (gr_w cs 1) false (some 0) (some i927) (none)) := by show gr_dc n R cs false 4 = _; unfold gr_dc; rw [hup, hfi, hse, hhd]
                    exact pd_iret (v := r1415) X w ⟨by rw [hg]; exact e1419, pd_kx.tr (pd_kx.mono (us := [6, 7, 8, 9, 10]) (pd_kx.tr (pd_kx.tr (pd_kx.tr (k859) (k892)) (k1295)) (k1374)) (by simp)) (k1418), A1420, (by rw [hg]; exact ⟨lb, cl, me, ru, bk, f1423, hz_x, f1439, f1422, (pd_Mems.ag f1440 ag1421 gr_cadd_le), f1441, f1442, ht60⟩)⟩ (by decide) (by decide) d_p1m14_236
            · -- some
              refine pd_top (v' := .ref (A i1333)) (by rw [q1334]; rfl) ?_
              have hl : lv_has ls 11 [(9, .int (nI 0)), (8, .int (nI 0)), (7, .null), (6, .ref (A i927)), (5, .ref (A 0)), (4, .int (nI 0)), (3, .int (nI 4)), (0, .ref x), (1, .ref y), (2, .int (nI 0))] := hl
              have i1333lt := gr_fi_lt q1331
              refine lv_ifnull hx hb d_p1m14_160 ?_
              refine lv_bipush (v := -3) hx hb d_p1m14_163 (by decide) ?_
              have hup : gr_up n R cs false = some 0 := if_neg (by omega)
              have hfi : gr_find R n (gr_w cs 4) = some i927 := q925
              have hse : gr_find R n (gr_w cs 5) = none := q1283
              have hhd : gr_hd n R cs false 4 (some 0) (some i927) (none) = .inl (-3) := by rw [gr_hd_s, if_neg (by simp; omega), if_pos (by rw [q1331]; simp)]
              have hg : gr_dc n R cs false (if false = true then 3 else 4) = ((-3), n, R) := by show gr_dc n R cs false 4 = _; unfold gr_dc; rw [hup, hfi, hse, hhd]
              exact pd_iret (v := (-3)) X w ⟨by rw [hg], pd_kx.mono (us := [6, 7, 8, 9, 10]) (pd_kx.tr (pd_kx.tr (k859) (k892)) (k1295)) (by simp), A, (by rw [hg]; exact ⟨lb, cl, me, ru, bk, f1306, hz_x, f1315, f1316, f1317, f1318, f1319, ht60⟩)⟩ (by decide) (by decide) d_p1m14_165
          · -- not taken: 123
            refine lv_iconst (v := nI 1) hx hb d_p1m14_123 (by decide) ?_
            refine lv_goto (tgt := 128) hx hb d_p1m14_124 (by decide) ?_
            refine lv_istore (lv' := [(9, .int (nI 1)), (8, .int (nI 0)), (7, .null), (6, .ref (A i927)), (5, .ref (A 0)), (4, .int (nI 0)), (3, .int (nI 4)), (0, .ref x), (1, .ref y), (2, .int (nI 0))]) hx hb d_p1m14_128 hl (by decide) rfl (fun ls hl => ?_)
            refine lv_aload hx hb d_p1m14_130 (lv_at hl 4 rfl) ?_
            refine lv_ifnull hx hb d_p1m14_132 ?_
            refine lv_iload hx hb d_p1m14_135 (lv_at hl 1 rfl) ?_
            refine pd_zne (tgt := 145) hx hb d_p1m14_137 (by decide) (by decide) (fun q => absurd q (by decide)) (fun _ => ?_)
            refine lv_iload hx hb d_p1m14_140 (lv_at hl 0 rfl) ?_
            refine pd_zeq (tgt := 148) hx hb d_p1m14_142 (by decide) (by decide) (fun q => absurd q (by decide)) (fun _ => ?_)
            refine lv_bipush (v := -2) hx hb d_p1m14_145 (by decide) ?_
            have hup : gr_up n R cs false = some 0 := if_neg (by omega)
            have hfi : gr_find R n (gr_w cs 4) = some i927 := q925
            have hse : gr_find R n (gr_w cs 5) = none := q1283
            have hhd : gr_hd n R cs false 4 (some 0) (some i927) (none) = .inl (-2) := by rw [gr_hd_s, if_pos (by simp; omega)]
            have hg : gr_dc n R cs false (if false = true then 3 else 4) = ((-2), n, R) := by show gr_dc n R cs false 4 = _; unfold gr_dc; rw [hup, hfi, hse, hhd]
            exact pd_iret (v := (-2)) X w ⟨by rw [hg], pd_kx.mono (us := [6, 7, 8, 9, 10]) (pd_kx.tr (k859) (k892)) (by simp), A, (by rw [hg]; exact ⟨lb, cl, me, ru, bk, f903, hz_x, f910, f911, f912, f913, f914, ht60⟩)⟩ (by decide) (by decide) d_p1m14_147
        · -- some
          refine pd_top (v' := .ref (A i1285)) (by rw [q1286]; rfl) ?_
          rw [q1286] at hl
          have hl : lv_has ls 11 [(8, .int (nI 0)), (7, .ref (A i1285)), (6, .ref (A i927)), (5, .ref (A 0)), (4, .int (nI 0)), (3, .int (nI 4)), (0, .ref x), (1, .ref y), (2, .int (nI 0))] := hl
          have i1285lt := gr_fi_lt q1283
          refine lv_ifnonnull (tgt := 127) hx hb d_p1m14_110 (by decide) ?_
          refine lv_iconst (v := nI 0) hx hb d_p1m14_127 (by decide) ?_
          refine lv_istore (lv' := [(9, .int (nI 0)), (8, .int (nI 0)), (7, .ref (A i1285)), (6, .ref (A i927)), (5, .ref (A 0)), (4, .int (nI 0)), (3, .int (nI 4)), (0, .ref x), (1, .ref y), (2, .int (nI 0))]) hx hb d_p1m14_128 hl (by decide) rfl (fun ls hl => ?_)
          refine lv_aload hx hb d_p1m14_130 (lv_at hl 4 rfl) ?_
          refine lv_ifnull hx hb d_p1m14_132 ?_
          refine lv_iload hx hb d_p1m14_135 (lv_at hl 1 rfl) ?_
          refine pd_zne (tgt := 145) hx hb d_p1m14_137 (by decide) (by decide) (fun q => absurd q (by decide)) (fun _ => ?_)
          refine lv_iload hx hb d_p1m14_140 (lv_at hl 0 rfl) ?_
          refine pd_zeq (tgt := 148) hx hb d_p1m14_142 (by decide) (by decide) (fun _ => ?_) (fun q => absurd q (by decide))
          refine lv_aload_n hx hb d_p1m14_148 rfl (lv_at hl 7 rfl) ?_
          refine pd_get X w f903 rfl 1 (by decide) mT_368 rfl rfl d_p1m14_149 ?_
          refine lv_aload_n hx hb d_p1m14_152 rfl (lv_at hl 8 rfl) ?_
          refine lv_iconst (v := nI 1) hx hb d_p1m14_153 (by decide) ?_
          refine pd_cV (a := y) (As := [.int (nI 1)]) (rest := [.ref cl]) X w f904 rfl (c_Line_word l G h890 (by assumption) (by omega)) ok_Line_word ⟨mT_574, mT_575⟩ mT_573 ⟨by decide, by decide⟩ rfl hl.1 rfl (Nat.le_of_ble_eq_true rfl) d_p1m14_154 ⟨by decide, by decide⟩ (fun r1461 h1462 H locs hp1463 w => ?_)
          refine W.widen (k := 6) (n := 192) (by decide) (by decide) ?_
          obtain ⟨k1464, ds1465, e1466, f1467⟩ := hp1463
          have f1475 := k1464 _ _ f903 List.not_mem_nil
          have f1476 := k1464 _ _ f904 List.not_mem_nil
          have f1477 := k1464 _ _ f905 List.not_mem_nil
          have f1478 := k1464 _ _ f906 List.not_mem_nil
          have f1479 := k1464 _ _ f907 List.not_mem_nil
          have f1480 := k1464 _ _ f898 List.not_mem_nil
          have f1481 := k1464 _ _ f908 List.not_mem_nil
          have f1482 := k1464 _ _ f909 List.not_mem_nil
          have f1483 := k1464 _ _ f899 List.not_mem_nil
          have f1484 := f910.kx k1464 List.not_mem_nil List.not_mem_nil
          have f1485 := f911.kx k1464 List.not_mem_nil List.not_mem_nil List.not_mem_nil
          have f1486 := f912.kx k1464 List.not_mem_nil List.not_mem_nil List.not_mem_nil
          have f1487 := f913.kx k1464 List.not_mem_nil List.not_mem_nil List.not_mem_nil
          have f1488 := f914.kx k1464 List.not_mem_nil List.not_mem_nil List.not_mem_nil List.not_mem_nil List.not_mem_nil
          have f1489 := f915.kx k1464 List.not_mem_nil
          have f1490 := f916.kx k1464 List.not_mem_nil
          have f1491 := f917.kx k1464 List.not_mem_nil
          have f1492 := f918.kx k1464 List.not_mem_nil
          have f1493 := f919.kx k1464 List.not_mem_nil
          have f1494 := f920.kx k1464 List.not_mem_nil
          have f1495 := f895.kx k1464 List.not_mem_nil
          obtain ⟨v1468, g1469, f1470, f1471, gf1472, gc1473, gl1474⟩ := id f1467
          subst e1466
          refine pd_cV (a := cl) (As := [.ref r1461]) (rest := []) X w f1478 rfl (c_Classes_find l G h1462 (by assumption) (by assumption)) ok_Classes_find ⟨mT_773, mT_774⟩ mT_772 ⟨by decide, by decide⟩ rfl hl.1 rfl (Nat.le_of_ble_eq_true rfl) d_p1m14_157 ⟨by decide, by decide⟩ (fun r1496 h1497 H locs hp1498 w => ?_)
          refine W.widen (k := 6) (n := 192) (by decide) (by decide) ?_
          obtain ⟨e1499, rfl⟩ := hp1498
          rcases pd_om e1499 with ⟨q1500, q1503⟩ | ⟨i1502, q1500, q1503⟩
          · -- none
            refine pd_top (v' := .null) (by rw [q1503]; rfl) ?_
            have hl : lv_has ls 11 [(9, .int (nI 0)), (8, .int (nI 0)), (7, .ref (A i1285)), (6, .ref (A i927)), (5, .ref (A 0)), (4, .int (nI 0)), (3, .int (nI 4)), (0, .ref x), (1, .ref y), (2, .int (nI 0))] := hl
            refine lv_ifnullN (tgt := 166) hx hb d_p1m14_160 (by decide) ?_
            refine lv_aload hx hb d_p1m14_166 (lv_at hl 3 rfl) ?_
            refine lv_ifnull hx hb d_p1m14_168 ?_
            refine lv_aload hx hb d_p1m14_171 (lv_at hl 3 rfl) ?_
            refine lv_aload hx hb d_p1m14_173 (lv_at hl 2 rfl) ?_
            refine lv_acmp_ne (rx := (some (A i927))) (ry := (some (A i1285))) (tgt := 182) hx hb d_p1m14_175 (by decide) (fun q1506 => ?_) (fun q1506 => ?_)
            · -- taken: 182
              refine lv_iconst (v := nI 0) hx hb d_p1m14_182 (by decide) ?_
              refine lv_istore (lv' := [(10, .int (nI 0)), (9, .int (nI 0)), (8, .int (nI 0)), (7, .ref (A i1285)), (6, .ref (A i927)), (5, .ref (A 0)), (4, .int (nI 0)), (3, .int (nI 4)), (0, .ref x), (1, .ref y), (2, .int (nI 0))]) hx hb d_p1m14_183 hl (by decide) rfl (fun ls hl => ?_)
              refine lv_aload hx hb d_p1m14_185 (lv_at hl 5 rfl) ?_
              obtain ⟨nm1507, fx1508, f1509, f1510, f1511⟩ := f1489.1 0 (by omega)
              obtain ⟨v1512, g1513, f1514, f1515, gf1516, gc1517, gl1518⟩ := id f1510
              obtain ⟨v1519, cap1520, g1521, f1522, z1523, z1524, z1525, z1526, z1527⟩ := id f1511
              refine pd_get X w f1509 rfl 2 (by decide) mT_260 rfl rfl d_p1m14_187 ?_
              refine pd_bne (tgt := 214) hx hb d_p1m14_190 (by decide) (fun q1528 => ?_) (fun q1528 => ?_)
              · -- taken: 214
                refine lv_bipush (v := -4) hx hb d_p1m14_214 (by decide) ?_
                have hup : gr_up n R cs false = some 0 := if_neg (by omega)
                have hfi : gr_find R n (gr_w cs 4) = some i927 := q925
                have hse : gr_find R n (gr_w cs 5) = some i1285 := q1283
                have hhd : gr_hd n R cs false 4 (some 0) (some i927) (some i1285) = .inl (-4) := by rw [gr_hd_s, if_neg (by simp), if_neg (by rw [q1500]; simp), if_pos (Or.inl q1528)]
                have hg : gr_dc n R cs false (if false = true then 3 else 4) = ((-4), n, R) := by show gr_dc n R cs false 4 = _; unfold gr_dc; rw [hup, hfi, hse, hhd]
                exact pd_iret (v := (-4)) X w ⟨by rw [hg], pd_kx.mono (us := [6, 7, 8, 9, 10]) (pd_kx.tr (pd_kx.tr (k859) (k892)) (k1464)) (by simp), A, (by rw [hg]; exact ⟨lb, cl, me, ru, bk, f1475, hz_x, f1484, f1485, f1486, f1487, f1488, ht60⟩)⟩ (by decide) (by decide) d_p1m14_216
              · -- not taken: 193
                refine lv_aload hx hb d_p1m14_193 (lv_at hl 4 rfl) ?_
                refine pd_cS (As := [.ref (A i927)]) (rest := []) X w (c_PolicyDesk_isPlainClass l G h1462 (A := A) (n := n) (R := R) (o := some i927) (by assumption) (fun t ht => by cases ht; omega)) ok_PolicyDesk_isPlainClass mT_778 mT_777 ⟨by decide, by decide⟩ rfl hl.1 rfl (Nat.le_of_ble_eq_true rfl) d_p1m14_195 ⟨by decide, by decide⟩ (fun r1529 h1530 H locs hp1531 w => ?_)
                refine W.widen (k := 6) (n := 192) (by decide) (by decide) ?_
                obtain ⟨e1532, rfl⟩ := hp1531
                refine pd_bne (tgt := 214) hx hb d_p1m14_198 (by decide) (fun q1533 => ?_) (fun q1533 => ?_)
                · -- taken: 214
                  refine lv_bipush (v := -4) hx hb d_p1m14_214 (by decide) ?_
                  have hup : gr_up n R cs false = some 0 := if_neg (by omega)
                  have hfi : gr_find R n (gr_w cs 4) = some i927 := q925
                  have hse : gr_find R n (gr_w cs 5) = some i1285 := q1283
                  have hhd : gr_hd n R cs false 4 (some 0) (some i927) (some i1285) = .inl (-4) := by rw [gr_hd_s, if_neg (by simp), if_neg (by rw [q1500]; simp), if_pos (Or.inr (Or.inl (e1532.symm.trans q1533)))]
                  have hg : gr_dc n R cs false (if false = true then 3 else 4) = ((-4), n, R) := by show gr_dc n R cs false 4 = _; unfold gr_dc; rw [hup, hfi, hse, hhd]
                  exact pd_iret (v := (-4)) X w ⟨by rw [hg], pd_kx.mono (us := [6, 7, 8, 9, 10]) (pd_kx.tr (pd_kx.tr (k859) (k892)) (k1464)) (by simp), A, (by rw [hg]; exact ⟨lb, cl, me, ru, bk, f1475, hz_x, f1484, f1485, f1486, f1487, f1488, ht60⟩)⟩ (by decide) (by decide) d_p1m14_216
                · -- not taken: 201
                  refine lv_aload hx hb d_p1m14_201 (lv_at hl 3 rfl) ?_
                  refine pd_cS (As := [.ref (A i1285)]) (rest := []) X w (c_PolicyDesk_isPlainClass l G h1462 (A := A) (n := n) (R := R) (o := some i1285) (by assumption) (fun t ht => by cases ht; omega)) ok_PolicyDesk_isPlainClass mT_778 mT_777 ⟨by decide, by decide⟩ rfl hl.1 rfl (Nat.le_of_ble_eq_true rfl) d_p1m14_203 ⟨by decide, by decide⟩ (fun r1534 h1535 H locs hp1536 w => ?_)
                  refine W.widen (k := 6) (n := 192) (by decide) (by decide) ?_
                  obtain ⟨e1537, rfl⟩ := hp1536
                  refine pd_bne (tgt := 214) hx hb d_p1m14_206 (by decide) (fun q1538 => ?_) (fun q1538 => ?_)
                  · -- taken: 214
                    refine lv_bipush (v := -4) hx hb d_p1m14_214 (by decide) ?_
                    have hup : gr_up n R cs false = some 0 := if_neg (by omega)
                    have hfi : gr_find R n (gr_w cs 4) = some i927 := q925
                    have hse : gr_find R n (gr_w cs 5) = some i1285 := q1283
                    have hhd : gr_hd n R cs false 4 (some 0) (some i927) (some i1285) = .inl (-4) := by rw [gr_hd_s, if_neg (by simp), if_neg (by rw [q1500]; simp), if_pos (Or.inr (Or.inr (Or.inl (e1537.symm.trans q1538))))]
                    have hg : gr_dc n R cs false (if false = true then 3 else 4) = ((-4), n, R) := by show gr_dc n R cs false 4 = _; unfold gr_dc; rw [hup, hfi, hse, hhd]
                    exact pd_iret (v := (-4)) X w ⟨by rw [hg], pd_kx.mono (us := [6, 7, 8, 9, 10]) (pd_kx.tr (pd_kx.tr (k859) (k892)) (k1464)) (by simp), A, (by rw [hg]; exact ⟨lb, cl, me, ru, bk, f1475, hz_x, f1484, f1485, f1486, f1487, f1488, ht60⟩)⟩ (by decide) (by decide) d_p1m14_216
                  · -- not taken: 209
                    refine lv_iload hx hb d_p1m14_209 (lv_at hl 0 rfl) ?_
                    refine pd_zeq (tgt := 217) hx hb d_p1m14_211 (by decide) (by decide) (fun _ => ?_) (fun q => absurd q (by decide))
                    refine lv_aload_n hx hb d_p1m14_217 rfl (lv_at hl 8 rfl) ?_
                    refine pd_get X w f1475 rfl 1 (by decide) mT_368 rfl rfl d_p1m14_218 ?_
                    refine lv_aload_n hx hb d_p1m14_221 rfl (lv_at hl 9 rfl) ?_
                    refine lv_iconst (v := nI 1) hx hb d_p1m14_222 (by decide) ?_
                    refine pd_cV (a := y) (As := [.int (nI 1)]) (rest := [.ref cl]) X w f1476 rfl (c_Line_word l G h1462 (by assumption) (by omega)) ok_Line_word ⟨mT_574, mT_575⟩ mT_573 ⟨by decide, by decide⟩ rfl hl.1 rfl (Nat.le_of_ble_eq_true rfl) d_p1m14_223 ⟨by decide, by decide⟩ (fun r1540 h1541 H locs hp1542 w => ?_)
                    refine W.widen (k := 8) (n := 256) (by decide) (by decide) ?_
                    obtain ⟨k1543, ds1544, e1545, f1546⟩ := hp1542
                    have f1554 := k1543 _ _ f1475 List.not_mem_nil
                    have f1555 := k1543 _ _ f1476 List.not_mem_nil
                    have f1556 := k1543 _ _ f1477 List.not_mem_nil
                    have f1557 := k1543 _ _ f1478 List.not_mem_nil
                    have f1558 := k1543 _ _ f1479 List.not_mem_nil
                    have f1559 := k1543 _ _ f1480 List.not_mem_nil
                    have f1560 := k1543 _ _ f1470 List.not_mem_nil
                    have f1561 := k1543 _ _ f1509 List.not_mem_nil
                    have f1562 := k1543 _ _ f1514 List.not_mem_nil
                    have f1563 := k1543 _ _ f1522 List.not_mem_nil
                    have f1564 := k1543 _ _ f1481 List.not_mem_nil
                    have f1565 := k1543 _ _ f1482 List.not_mem_nil
                    have f1566 := k1543 _ _ f1483 List.not_mem_nil
                    have f1567 := k1543 _ _ f1471 List.not_mem_nil
                    have f1568 := k1543 _ _ f1515 List.not_mem_nil
                    have f1569 := f1484.kx k1543 List.not_mem_nil List.not_mem_nil
                    have f1570 := f1485.kx k1543 List.not_mem_nil List.not_mem_nil List.not_mem_nil
                    have f1571 := f1486.kx k1543 List.not_mem_nil List.not_mem_nil List.not_mem_nil
                    have f1572 := f1487.kx k1543 List.not_mem_nil List.not_mem_nil List.not_mem_nil
                    have f1573 := f1488.kx k1543 List.not_mem_nil List.not_mem_nil List.not_mem_nil List.not_mem_nil List.not_mem_nil
                    have f1574 := f1489.kx k1543 List.not_mem_nil
                    have f1575 := f1490.kx k1543 List.not_mem_nil
                    have f1576 := f1491.kx k1543 List.not_mem_nil
                    have f1577 := f1492.kx k1543 List.not_mem_nil
                    have f1578 := f1493.kx k1543 List.not_mem_nil
                    have f1579 := f1494.kx k1543 List.not_mem_nil
                    have f1580 := f1495.kx k1543 List.not_mem_nil
                    have f1581 := f1467.kx k1543 List.not_mem_nil
                    have f1582 := f1510.kx k1543 List.not_mem_nil
                    have f1583 := f1511.kx k1543 List.not_mem_nil List.not_mem_nil List.not_mem_nil
                    obtain ⟨v1547, g1548, f1549, f1550, gf1551, gc1552, gl1553⟩ := id f1546
                    subst e1545
                    refine lv_iload_n hx hb d_p1m14_226 rfl (lv_at hl 10 rfl) ?_
                    refine lv_aload hx hb d_p1m14_227 (lv_at hl 5 rfl) ?_
                    refine lv_aload hx hb d_p1m14_229 (lv_at hl 4 rfl) ?_
                    refine lv_aload hx hb d_p1m14_231 (lv_at hl 3 rfl) ?_
                    refine pd_cV (a := cl) (As := [.ref r1540, .int (nI 0), .ref (A 0), .ref (A i927), .ref (A i1285)]) (rest := []) X w f1557 rfl (c_Classes_add l G h1541 (A := A) (n := n) (R := R) (bi := false) (ab := some 0) (fi := some i927) (se := some i1285) (by assumption) (by assumption) (fun t ht => by cases ht; omega) (fun t ht => by cases ht; omega) (fun t ht => by cases ht; omega)) ok_Classes_add ⟨mT_781, mT_782⟩ mT_780 ⟨by decide, by decide⟩ rfl hl.1 rfl (Nat.le_of_ble_eq_true rfl) d_p1m14_233 ⟨by decide, by decide⟩ (fun r1584 h1585 H locs hp1586 w => ?_)
                    refine W.widen (k := 38) (n := 688) (by decide) (by decide) ?_
                    obtain ⟨k1587, e1588, A1589, ag1590, f1591⟩ := hp1586
                    have f1592 := k1587 _ _ f1554 (show (5 : Nat) ∉ [6, 7, 8, 9, 10] by decide)
                    have f1593 := k1587 _ _ f1555 (show (0 : Nat) ∉ [6, 7, 8, 9, 10] by decide)
                    have f1594 := k1587 _ _ f1556 (show (0 : Nat) ∉ [6, 7, 8, 9, 10] by decide)
                    have f1595 := k1587 _ _ f1558 (show (0 : Nat) ∉ [6, 7, 8, 9, 10] by decide)
                    have f1596 := k1587 _ _ f1559 (show (0 : Nat) ∉ [6, 7, 8, 9, 10] by decide)
                    have f1597 := k1587 _ _ f1560 (show (0 : Nat) ∉ [6, 7, 8, 9, 10] by decide)
                    have f1598 := k1587 _ _ f1561 (show (0 : Nat) ∉ [6, 7, 8, 9, 10] by decide)
                    have f1599 := k1587 _ _ f1562 (show (0 : Nat) ∉ [6, 7, 8, 9, 10] by decide)
                    have f1600 := k1587 _ _ f1563 (show (0 : Nat) ∉ [6, 7, 8, 9, 10] by decide)
                    have f1601 := k1587 _ _ f1549 (show (0 : Nat) ∉ [6, 7, 8, 9, 10] by decide)
                    have f1602 := k1587 _ _ f1564 (show (0 : Nat) ∉ [6, 7, 8, 9, 10] by decide)
                    have f1603 := k1587 _ _ f1565 (show (0 : Nat) ∉ [6, 7, 8, 9, 10] by decide)
                    have f1604 := k1587 _ _ f1566 (show (0 : Nat) ∉ [6, 7, 8, 9, 10] by decide)
                    have f1605 := k1587 _ _ f1567 (show (0 : Nat) ∉ [6, 7, 8, 9, 10] by decide)
                    have f1606 := k1587 _ _ f1568 (show (0 : Nat) ∉ [6, 7, 8, 9, 10] by decide)
                    have f1607 := k1587 _ _ f1550 (show (0 : Nat) ∉ [6, 7, 8, 9, 10] by decide)
                    have f1608 := f1569.kx k1587 (show (1 : Nat) ∉ [6, 7, 8, 9, 10] by decide) (show (2 : Nat) ∉ [6, 7, 8, 9, 10] by decide)
                    have f1609 := f1571.kx k1587 (show (11 : Nat) ∉ [6, 7, 8, 9, 10] by decide) (show (12 : Nat) ∉ [6, 7, 8, 9, 10] by decide) (show (0 : Nat) ∉ [6, 7, 8, 9, 10] by decide)
                    have f1610 := f1572.kx k1587 (show (13 : Nat) ∉ [6, 7, 8, 9, 10] by decide) (show (14 : Nat) ∉ [6, 7, 8, 9, 10] by decide) (show (0 : Nat) ∉ [6, 7, 8, 9, 10] by decide)
                    have f1611 := f1573.kx k1587 (show (15 : Nat) ∉ [6, 7, 8, 9, 10] by decide) (show (16 : Nat) ∉ [6, 7, 8, 9, 10] by decide) (show (17 : Nat) ∉ [6, 7, 8, 9, 10] by decide) (show (3 : Nat) ∉ [6, 7, 8, 9, 10] by decide) (show (4 : Nat) ∉ [6, 7, 8, 9, 10] by decide)
                    have f1612 := f1575.kx k1587 (show (0 : Nat) ∉ [6, 7, 8, 9, 10] by decide)
                    have f1613 := f1576.kx k1587 (show (0 : Nat) ∉ [6, 7, 8, 9, 10] by decide)
                    have f1614 := f1577.kx k1587 (show (0 : Nat) ∉ [6, 7, 8, 9, 10] by decide)
                    have f1615 := f1578.kx k1587 (show (0 : Nat) ∉ [6, 7, 8, 9, 10] by decide)
                    have f1616 := f1579.kx k1587 (show (0 : Nat) ∉ [6, 7, 8, 9, 10] by decide)
                    have f1617 := f1580.kx k1587 (show (0 : Nat) ∉ [6, 7, 8, 9, 10] by decide)
                    have f1618 := f1581.kx k1587 (show (0 : Nat) ∉ [6, 7, 8, 9, 10] by decide)
                    have f1619 := f1582.kx k1587 (show (0 : Nat) ∉ [6, 7, 8, 9, 10] by decide)
                    have f1620 := f1583.kx k1587 (show (0 : Nat) ∉ [6, 7, 8, 9, 10] by decide) (show (0 : Nat) ∉ [6, 7, 8, 9, 10] by decide) (show (0 : Nat) ∉ [6, 7, 8, 9, 10] by decide)
                    have f1621 := f1546.kx k1587 (show (0 : Nat) ∉ [6, 7, 8, 9, 10] by decide)
                    have hup : gr_up n R cs false = some 0 := if_neg (by omega)
                    have hfi : gr_find R n (gr_w cs 4) = some i927 := q925
                    have hse : gr_find R n (gr_w cs 5) = some i1285 := q1283
                    have hhd : gr_hd n R cs false 4 (some 0) (some i927) (some i1285) = .inr 0 := by rw [gr_hd_s, if_neg (by simp), if_neg (by rw [q1500]; simp), if_neg (fun h9 => by rcases h9 with h9 | h9 | h9 | h9; rw [q1528] at h9; cases h9; rw [← e1532, q1533] at h9; cases h9; rw [← e1537, q1538] at h9; cases h9; exact q1506 (by rw [Option.some.inj h9.2]))]
                    have hg : gr_dc n R cs false (if false = true then 3 else 4) = gr_cadd n R (gr_row R n (gr_w cs 1) false (some 0) (some i927) (some i1285)) := by show gr_dc n R cs false 4 = _; unfold gr_dc; rw [hup, hfi, hse, hhd]
                    exact pd_iret (v := r1584) X w ⟨by rw [hg]; exact e1588, pd_kx.tr (pd_kx.mono (us := [6, 7, 8, 9, 10]) (pd_kx.tr (pd_kx.tr (pd_kx.tr (k859) (k892)) (k1464)) (k1543)) (by simp)) (k1587), A1589, (by rw [hg]; exact ⟨lb, cl, me, ru, bk, f1592, hz_x, f1608, f1591, (pd_Mems.ag f1609 ag1590 gr_cadd_le), f1610, f1611, ht60⟩)⟩ (by decide) (by decide) d_p1m14_236
            · -- not taken: 178
              refine lv_iconst (v := nI 1) hx hb d_p1m14_178 (by decide) ?_
              refine lv_goto (tgt := 183) hx hb d_p1m14_179 (by decide) ?_
              refine lv_istore (lv' := [(10, .int (nI 1)), (9, .int (nI 0)), (8, .int (nI 0)), (7, .ref (A i1285)), (6, .ref (A i927)), (5, .ref (A 0)), (4, .int (nI 0)), (3, .int (nI 4)), (0, .ref x), (1, .ref y), (2, .int (nI 0))]) hx hb d_p1m14_183 hl (by decide) rfl (fun ls hl => ?_)
              refine lv_aload hx hb d_p1m14_185 (lv_at hl 5 rfl) ?_
              obtain ⟨nm1622, fx1623, f1624, f1625, f1626⟩ := f1489.1 0 (by omega)
              obtain ⟨v1627, g1628, f1629, f1630, gf1631, gc1632, gl1633⟩ := id f1625
              obtain ⟨v1634, cap1635, g1636, f1637, z1638, z1639, z1640, z1641, z1642⟩ := id f1626
              refine pd_get X w f1624 rfl 2 (by decide) mT_260 rfl rfl d_p1m14_187 ?_
              refine pd_bne (tgt := 214) hx hb d_p1m14_190 (by decide) (fun q1643 => ?_) (fun q1643 => ?_)
              · -- taken: 214
                refine lv_bipush (v := -4) hx hb d_p1m14_214 (by decide) ?_
                have hup : gr_up n R cs false = some 0 := if_neg (by omega)
                have hfi : gr_find R n (gr_w cs 4) = some i927 := q925
                have hse : gr_find R n (gr_w cs 5) = some i1285 := q1283
                have hhd : gr_hd n R cs false 4 (some 0) (some i927) (some i1285) = .inl (-4) := by rw [gr_hd_s, if_neg (by simp), if_neg (by rw [q1500]; simp), if_pos (Or.inl q1643)]
                have hg : gr_dc n R cs false (if false = true then 3 else 4) = ((-4), n, R) := by show gr_dc n R cs false 4 = _; unfold gr_dc; rw [hup, hfi, hse, hhd]
                exact pd_iret (v := (-4)) X w ⟨by rw [hg], pd_kx.mono (us := [6, 7, 8, 9, 10]) (pd_kx.tr (pd_kx.tr (k859) (k892)) (k1464)) (by simp), A, (by rw [hg]; exact ⟨lb, cl, me, ru, bk, f1475, hz_x, f1484, f1485, f1486, f1487, f1488, ht60⟩)⟩ (by decide) (by decide) d_p1m14_216
              · -- not taken: 193
                refine lv_aload hx hb d_p1m14_193 (lv_at hl 4 rfl) ?_
                refine pd_cS (As := [.ref (A i927)]) (rest := []) X w (c_PolicyDesk_isPlainClass l G h1462 (A := A) (n := n) (R := R) (o := some i927) (by assumption) (fun t ht => by cases ht; omega)) ok_PolicyDesk_isPlainClass mT_778 mT_777 ⟨by decide, by decide⟩ rfl hl.1 rfl (Nat.le_of_ble_eq_true rfl) d_p1m14_195 ⟨by decide, by decide⟩ (fun r1644 h1645 H locs hp1646 w => ?_)
                refine W.widen (k := 6) (n := 192) (by decide) (by decide) ?_
                obtain ⟨e1647, rfl⟩ := hp1646
                refine pd_bne (tgt := 214) hx hb d_p1m14_198 (by decide) (fun q1648 => ?_) (fun q1648 => ?_)
                · -- taken: 214
                  refine lv_bipush (v := -4) hx hb d_p1m14_214 (by decide) ?_
                  have hup : gr_up n R cs false = some 0 := if_neg (by omega)
                  have hfi : gr_find R n (gr_w cs 4) = some i927 := q925
                  have hse : gr_find R n (gr_w cs 5) = some i1285 := q1283
                  have hhd : gr_hd n R cs false 4 (some 0) (some i927) (some i1285) = .inl (-4) := by rw [gr_hd_s, if_neg (by simp), if_neg (by rw [q1500]; simp), if_pos (Or.inr (Or.inl (e1647.symm.trans q1648)))]
                  have hg : gr_dc n R cs false (if false = true then 3 else 4) = ((-4), n, R) := by show gr_dc n R cs false 4 = _; unfold gr_dc; rw [hup, hfi, hse, hhd]
                  exact pd_iret (v := (-4)) X w ⟨by rw [hg], pd_kx.mono (us := [6, 7, 8, 9, 10]) (pd_kx.tr (pd_kx.tr (k859) (k892)) (k1464)) (by simp), A, (by rw [hg]; exact ⟨lb, cl, me, ru, bk, f1475, hz_x, f1484, f1485, f1486, f1487, f1488, ht60⟩)⟩ (by decide) (by decide) d_p1m14_216
                · -- not taken: 201
                  refine lv_aload hx hb d_p1m14_201 (lv_at hl 3 rfl) ?_
                  refine pd_cS (As := [.ref (A i1285)]) (rest := []) X w (c_PolicyDesk_isPlainClass l G h1462 (A := A) (n := n) (R := R) (o := some i1285) (by assumption) (fun t ht => by cases ht; omega)) ok_PolicyDesk_isPlainClass mT_778 mT_777 ⟨by decide, by decide⟩ rfl hl.1 rfl (Nat.le_of_ble_eq_true rfl) d_p1m14_203 ⟨by decide, by decide⟩ (fun r1649 h1650 H locs hp1651 w => ?_)
                  refine W.widen (k := 6) (n := 192) (by decide) (by decide) ?_
                  obtain ⟨e1652, rfl⟩ := hp1651
                  refine pd_bne (tgt := 214) hx hb d_p1m14_206 (by decide) (fun q1653 => ?_) (fun q1653 => ?_)
                  · -- taken: 214
                    refine lv_bipush (v := -4) hx hb d_p1m14_214 (by decide) ?_
                    have hup : gr_up n R cs false = some 0 := if_neg (by omega)
                    have hfi : gr_find R n (gr_w cs 4) = some i927 := q925
                    have hse : gr_find R n (gr_w cs 5) = some i1285 := q1283
                    have hhd : gr_hd n R cs false 4 (some 0) (some i927) (some i1285) = .inl (-4) := by rw [gr_hd_s, if_neg (by simp), if_neg (by rw [q1500]; simp), if_pos (Or.inr (Or.inr (Or.inl (e1652.symm.trans q1653))))]
                    have hg : gr_dc n R cs false (if false = true then 3 else 4) = ((-4), n, R) := by show gr_dc n R cs false 4 = _; unfold gr_dc; rw [hup, hfi, hse, hhd]
                    exact pd_iret (v := (-4)) X w ⟨by rw [hg], pd_kx.mono (us := [6, 7, 8, 9, 10]) (pd_kx.tr (pd_kx.tr (k859) (k892)) (k1464)) (by simp), A, (by rw [hg]; exact ⟨lb, cl, me, ru, bk, f1475, hz_x, f1484, f1485, f1486, f1487, f1488, ht60⟩)⟩ (by decide) (by decide) d_p1m14_216
                  · -- not taken: 209
                    refine lv_iload hx hb d_p1m14_209 (lv_at hl 0 rfl) ?_
                    refine pd_zeq (tgt := 217) hx hb d_p1m14_211 (by decide) (by decide) (fun q => absurd q (by decide)) (fun _ => ?_)
                    refine lv_bipush (v := -4) hx hb d_p1m14_214 (by decide) ?_
                    have hup : gr_up n R cs false = some 0 := if_neg (by omega)
                    have hfi : gr_find R n (gr_w cs 4) = some i927 := q925
                    have hse : gr_find R n (gr_w cs 5) = some i1285 := q1283
                    have hhd : gr_hd n R cs false 4 (some 0) (some i927) (some i1285) = .inl (-4) := by rw [gr_hd_s, if_neg (by simp), if_neg (by rw [q1500]; simp), if_pos (Or.inr (Or.inr (Or.inr ⟨by simp, congrArg some (hAi _ _ i927lt i1285lt (Option.some.inj q1506))⟩)))]
                    have hg : gr_dc n R cs false (if false = true then 3 else 4) = ((-4), n, R) := by show gr_dc n R cs false 4 = _; unfold gr_dc; rw [hup, hfi, hse, hhd]
                    exact pd_iret (v := (-4)) X w ⟨by rw [hg], pd_kx.mono (us := [6, 7, 8, 9, 10]) (pd_kx.tr (pd_kx.tr (k859) (k892)) (k1464)) (by simp), A, (by rw [hg]; exact ⟨lb, cl, me, ru, bk, f1475, hz_x, f1484, f1485, f1486, f1487, f1488, ht60⟩)⟩ (by decide) (by decide) d_p1m14_216
          · -- some
            refine pd_top (v' := .ref (A i1502)) (by rw [q1503]; rfl) ?_
            have hl : lv_has ls 11 [(9, .int (nI 0)), (8, .int (nI 0)), (7, .ref (A i1285)), (6, .ref (A i927)), (5, .ref (A 0)), (4, .int (nI 0)), (3, .int (nI 4)), (0, .ref x), (1, .ref y), (2, .int (nI 0))] := hl
            have i1502lt := gr_fi_lt q1500
            refine lv_ifnull hx hb d_p1m14_160 ?_
            refine lv_bipush (v := -3) hx hb d_p1m14_163 (by decide) ?_
            have hup : gr_up n R cs false = some 0 := if_neg (by omega)
            have hfi : gr_find R n (gr_w cs 4) = some i927 := q925
            have hse : gr_find R n (gr_w cs 5) = some i1285 := q1283
            have hhd : gr_hd n R cs false 4 (some 0) (some i927) (some i1285) = .inl (-3) := by rw [gr_hd_s, if_neg (by simp), if_pos (by rw [q1500]; simp)]
            have hg : gr_dc n R cs false (if false = true then 3 else 4) = ((-3), n, R) := by show gr_dc n R cs false 4 = _; unfold gr_dc; rw [hup, hfi, hse, hhd]
            exact pd_iret (v := (-3)) X w ⟨by rw [hg], pd_kx.mono (us := [6, 7, 8, 9, 10]) (pd_kx.tr (pd_kx.tr (k859) (k892)) (k1464)) (by simp), A, (by rw [hg]; exact ⟨lb, cl, me, ru, bk, f1475, hz_x, f1484, f1485, f1486, f1487, f1488, ht60⟩)⟩ (by decide) (by decide) d_p1m14_165
    · -- not taken: 22
      refine lv_iconst (v := nI 1) hx hb d_p1m14_22 (by decide) ?_
      refine lv_goto (tgt := 27) hx hb d_p1m14_23 (by decide) ?_
      refine lv_istore (lv' := [(4, .int (nI 1)), (3, .int (nI 4)), (0, .ref x), (1, .ref y), (2, .int (nI 0))]) hx hb d_p1m14_27 hl (by decide) rfl (fun ls hl => ?_)
      refine lv_iload hx hb d_p1m14_29 (lv_at hl 0 rfl) ?_
      refine pd_zeq (tgt := 49) hx hb d_p1m14_31 (by decide) (by decide) (fun q => absurd q (by decide)) (fun _ => ?_)
      refine lv_aload_n hx hb d_p1m14_34 rfl (lv_at hl 2 rfl) ?_
      refine pd_get X w hx0 rfl 1 (by decide) mT_368 rfl rfl d_p1m14_35 ?_
      refine lv_aload_n hx hb d_p1m14_38 rfl (lv_at hl 3 rfl) ?_
      refine lv_iconst (v := nI 3) hx hb d_p1m14_39 (by decide) ?_
      refine pd_cV (a := y) (As := [.int (nI 3)]) (rest := [.ref cl]) X w f833 rfl (c_Line_word l G h (by assumption) (by omega)) ok_Line_word ⟨mT_574, mT_575⟩ mT_573 ⟨by decide, by decide⟩ rfl hl.1 rfl (Nat.le_of_ble_eq_true rfl) d_p1m14_40 ⟨by decide, by decide⟩ (fun r1657 h1658 H locs hp1659 w => ?_)
      refine W.widen (k := 2) (n := 64) (by decide) (by decide) ?_
      obtain ⟨k1660, ds1661, e1662, f1663⟩ := hp1659
      have f1671 := k1660 _ _ hx0 List.not_mem_nil
      have f1672 := k1660 _ _ f833 List.not_mem_nil
      have f1673 := k1660 _ _ f840 List.not_mem_nil
      have f1674 := k1660 _ _ f841 List.not_mem_nil
      have f1675 := hsb.kx k1660 List.not_mem_nil List.not_mem_nil
      have f1676 := hC.kx k1660 List.not_mem_nil List.not_mem_nil List.not_mem_nil
      have f1677 := hM.kx k1660 List.not_mem_nil List.not_mem_nil List.not_mem_nil
      have f1678 := hU.kx k1660 List.not_mem_nil List.not_mem_nil List.not_mem_nil
      have f1679 := hA.kx k1660 List.not_mem_nil List.not_mem_nil List.not_mem_nil List.not_mem_nil List.not_mem_nil
      have f1680 := hR.kx k1660 List.not_mem_nil
      have f1681 := hMR.kx k1660 List.not_mem_nil
      have f1682 := hRR.kx k1660 List.not_mem_nil
      have f1683 := hL.kx k1660 List.not_mem_nil
      have f1684 := f836.kx k1660 List.not_mem_nil
      obtain ⟨v1664, g1665, f1666, f1667, gf1668, gc1669, gl1670⟩ := id f1663
      subst e1662
      obtain ⟨ar1688, g1689, f1690, f1691, g1692, hz1693, hz1694, z1695, f1696⟩ := id f1676
      refine pd_cV (a := cl) (As := [.ref r1657]) (rest := []) X w f1690 rfl (c_Classes_find l G h1658 (by assumption) (by assumption)) ok_Classes_find ⟨mT_773, mT_774⟩ mT_772 ⟨by decide, by decide⟩ rfl hl.1 rfl (Nat.le_of_ble_eq_true rfl) d_p1m14_43 ⟨by decide, by decide⟩ (fun r1685 h1686 H locs hp1687 w => ?_)
      refine W.widen (k := 2) (n := 64) (by decide) (by decide) ?_
      obtain ⟨e1697, rfl⟩ := hp1687
      refine lv_goto (tgt := 56) hx hb d_p1m14_46 (by decide) ?_
      refine pd_ostore (lv' := [(5, va_rf r1685), (4, .int (nI 1)), (3, .int (nI 4)), (0, .ref x), (1, .ref y), (2, .int (nI 0))]) hx hb d_p1m14_56 hl (by decide) rfl (fun ls hl => ?_)
      refine lv_aload_n hx hb d_p1m14_58 rfl (lv_at hl 3 rfl) ?_
      refine pd_get X w f1671 rfl 1 (by decide) mT_368 rfl rfl d_p1m14_59 ?_
      refine lv_aload_n hx hb d_p1m14_62 rfl (lv_at hl 4 rfl) ?_
      refine lv_iload_n hx hb d_p1m14_63 rfl (lv_at hl 2 rfl) ?_
      refine pd_cV (a := y) (As := [.int (nI 4)]) (rest := [.ref cl]) X w f1672 rfl (c_Line_word l G h1658 (by assumption) (by omega)) ok_Line_word ⟨mT_574, mT_575⟩ mT_573 ⟨by decide, by decide⟩ rfl hl.1 rfl (Nat.le_of_ble_eq_true rfl) d_p1m14_64 ⟨by decide, by decide⟩ (fun r1698 h1699 H locs hp1700 w => ?_)
      refine W.widen (k := 4) (n := 128) (by decide) (by decide) ?_
      obtain ⟨k1701, ds1702, e1703, f1704⟩ := hp1700
      have f1712 := k1701 _ _ f1671 List.not_mem_nil
      have f1713 := k1701 _ _ f1672 List.not_mem_nil
      have f1714 := k1701 _ _ f1673 List.not_mem_nil
      have f1715 := k1701 _ _ f1666 List.not_mem_nil
      have f1716 := k1701 _ _ f1690 List.not_mem_nil
      have f1717 := k1701 _ _ f1674 List.not_mem_nil
      have f1718 := k1701 _ _ f1667 List.not_mem_nil
      have f1719 := f1675.kx k1701 List.not_mem_nil List.not_mem_nil
      have f1720 := f1676.kx k1701 List.not_mem_nil List.not_mem_nil List.not_mem_nil
      have f1721 := f1677.kx k1701 List.not_mem_nil List.not_mem_nil List.not_mem_nil
      have f1722 := f1678.kx k1701 List.not_mem_nil List.not_mem_nil List.not_mem_nil
      have f1723 := f1679.kx k1701 List.not_mem_nil List.not_mem_nil List.not_mem_nil List.not_mem_nil List.not_mem_nil
      have f1724 := f1680.kx k1701 List.not_mem_nil
      have f1725 := f1681.kx k1701 List.not_mem_nil
      have f1726 := f1682.kx k1701 List.not_mem_nil
      have f1727 := f1683.kx k1701 List.not_mem_nil
      have f1728 := f1684.kx k1701 List.not_mem_nil
      have f1729 := f1663.kx k1701 List.not_mem_nil
      obtain ⟨v1705, g1706, f1707, f1708, gf1709, gc1710, gl1711⟩ := id f1704
      subst e1703
      refine pd_cV (a := cl) (As := [.ref r1698]) (rest := []) X w f1716 rfl (c_Classes_find l G h1699 (by assumption) (by assumption)) ok_Classes_find ⟨mT_773, mT_774⟩ mT_772 ⟨by decide, by decide⟩ rfl hl.1 rfl (Nat.le_of_ble_eq_true rfl) d_p1m14_67 ⟨by decide, by decide⟩ (fun r1730 h1731 H locs hp1732 w => ?_)
      refine W.widen (k := 4) (n := 128) (by decide) (by decide) ?_
      obtain ⟨e1733, rfl⟩ := hp1732
      refine pd_ostore (lv' := [(6, va_rf r1730), (5, va_rf r1685), (4, .int (nI 1)), (3, .int (nI 4)), (0, .ref x), (1, .ref y), (2, .int (nI 0))]) hx hb d_p1m14_70 hl (by decide) (by simp [pd_cat]) (fun ls hl => ?_)
      refine lv_aload_n hx hb d_p1m14_72 rfl (lv_at hl 4 rfl) ?_
      refine pd_get X w f1712 rfl 1 (by decide) mT_368 rfl rfl d_p1m14_73 ?_
      refine lv_aload_n hx hb d_p1m14_76 rfl (lv_at hl 5 rfl) ?_
      refine lv_iload_n hx hb d_p1m14_77 rfl (lv_at hl 3 rfl) ?_
      refine lv_iconst (v := nI 1) hx hb d_p1m14_78 (by decide) ?_
      refine pd_iadd hx hb d_p1m14_79 ?_
      refine pd_cV (a := y) (As := [.int (nI 5)]) (rest := [.ref cl]) X w f1713 rfl (c_Line_word l G h1699 (by assumption) (by omega)) ok_Line_word ⟨mT_574, mT_575⟩ mT_573 ⟨by decide, by decide⟩ rfl hl.1 rfl (Nat.le_of_ble_eq_true rfl) d_p1m14_80 ⟨by decide, by decide⟩ (fun r1734 h1735 H locs hp1736 w => ?_)
      refine W.widen (k := 6) (n := 192) (by decide) (by decide) ?_
      obtain ⟨k1737, ds1738, e1739, f1740⟩ := hp1736
      have f1748 := k1737 _ _ f1712 List.not_mem_nil
      have f1749 := k1737 _ _ f1713 List.not_mem_nil
      have f1750 := k1737 _ _ f1714 List.not_mem_nil
      have f1751 := k1737 _ _ f1715 List.not_mem_nil
      have f1752 := k1737 _ _ f1716 List.not_mem_nil
      have f1753 := k1737 _ _ f1707 List.not_mem_nil
      have f1754 := k1737 _ _ f1717 List.not_mem_nil
      have f1755 := k1737 _ _ f1718 List.not_mem_nil
      have f1756 := k1737 _ _ f1708 List.not_mem_nil
      have f1757 := f1719.kx k1737 List.not_mem_nil List.not_mem_nil
      have f1758 := f1720.kx k1737 List.not_mem_nil List.not_mem_nil List.not_mem_nil
      have f1759 := f1721.kx k1737 List.not_mem_nil List.not_mem_nil List.not_mem_nil
      have f1760 := f1722.kx k1737 List.not_mem_nil List.not_mem_nil List.not_mem_nil
      have f1761 := f1723.kx k1737 List.not_mem_nil List.not_mem_nil List.not_mem_nil List.not_mem_nil List.not_mem_nil
      have f1762 := f1724.kx k1737 List.not_mem_nil
      have f1763 := f1725.kx k1737 List.not_mem_nil
      have f1764 := f1726.kx k1737 List.not_mem_nil
      have f1765 := f1727.kx k1737 List.not_mem_nil
      have f1766 := f1728.kx k1737 List.not_mem_nil
      have f1767 := f1729.kx k1737 List.not_mem_nil
      have f1768 := f1704.kx k1737 List.not_mem_nil
      obtain ⟨v1741, g1742, f1743, f1744, gf1745, gc1746, gl1747⟩ := id f1740
      subst e1739
      refine pd_cV (a := cl) (As := [.ref r1734]) (rest := []) X w f1752 rfl (c_Classes_find l G h1735 (by assumption) (by assumption)) ok_Classes_find ⟨mT_773, mT_774⟩ mT_772 ⟨by decide, by decide⟩ rfl hl.1 rfl (Nat.le_of_ble_eq_true rfl) d_p1m14_83 ⟨by decide, by decide⟩ (fun r1769 h1770 H locs hp1771 w => ?_)
      refine W.widen (k := 6) (n := 192) (by decide) (by decide) ?_
      obtain ⟨e1772, rfl⟩ := hp1771
      refine pd_ostore (lv' := [(7, va_rf r1769), (6, va_rf r1730), (5, va_rf r1685), (4, .int (nI 1)), (3, .int (nI 4)), (0, .ref x), (1, .ref y), (2, .int (nI 0))]) hx hb d_p1m14_86 hl (by decide) (by simp [pd_cat]) (fun ls hl => ?_)
      refine pd_oload hx hb d_p1m14_88 (lv_at hl 1 rfl) ?_
      rcases pd_om e1733 with ⟨q1773, q1776⟩ | ⟨i1775, q1773, q1776⟩
      · -- none
        refine pd_top (v' := .null) (by rw [q1776]; rfl) ?_
        rw [q1776] at hl
        have hl : lv_has ls 11 [(7, va_rf r1769), (6, .null), (5, va_rf r1685), (4, .int (nI 1)), (3, .int (nI 4)), (0, .ref x), (1, .ref y), (2, .int (nI 0))] := hl
        refine lv_ifnonnullN hx hb d_p1m14_90 ?_
        refine lv_aload_n hx hb d_p1m14_93 rfl (lv_at hl 6 rfl) ?_
        refine pd_get X w f1749 rfl 1 (by decide) mT_544 rfl rfl d_p1m14_94 ?_
        refine lv_iload_n hx hb d_p1m14_97 rfl (lv_at hl 4 rfl) ?_
        refine pd_jle (tgt := 105) hx hb d_p1m14_98 (by decide) (by omega) (by omega) (fun q1778 => ?_) (fun q1778 => ?_)
        · -- taken: 105
          refine lv_iconst (v := nI 0) hx hb d_p1m14_105 (by decide) ?_
          refine lv_istore (lv' := [(8, .int (nI 0)), (7, va_rf r1769), (6, .null), (5, va_rf r1685), (4, .int (nI 1)), (3, .int (nI 4)), (0, .ref x), (1, .ref y), (2, .int (nI 0))]) hx hb d_p1m14_106 hl (by decide) (by simp [pd_cat]) (fun ls hl => ?_)
          refine pd_oload hx hb d_p1m14_108 (lv_at hl 1 rfl) ?_
          rcases pd_om e1772 with ⟨q1779, q1782⟩ | ⟨i1781, q1779, q1782⟩
          · -- none
            refine pd_top (v' := .null) (by rw [q1782]; rfl) ?_
            rw [q1782] at hl
            have hl : lv_has ls 11 [(8, .int (nI 0)), (7, .null), (6, .null), (5, va_rf r1685), (4, .int (nI 1)), (3, .int (nI 4)), (0, .ref x), (1, .ref y), (2, .int (nI 0))] := hl
            refine lv_ifnonnullN hx hb d_p1m14_110 ?_
            refine lv_aload_n hx hb d_p1m14_113 rfl (lv_at hl 7 rfl) ?_
            refine pd_get X w f1749 rfl 1 (by decide) mT_544 rfl rfl d_p1m14_114 ?_
            refine lv_iload_n hx hb d_p1m14_117 rfl (lv_at hl 5 rfl) ?_
            refine lv_iconst (v := nI 1) hx hb d_p1m14_118 (by decide) ?_
            refine pd_iadd hx hb d_p1m14_119 ?_
            refine pd_jle (tgt := 127) hx hb d_p1m14_120 (by decide) (by omega) (by omega) (fun q1784 => ?_) (fun q1784 => ?_)
            · -- taken: 127
              refine lv_iconst (v := nI 0) hx hb d_p1m14_127 (by decide) ?_
              refine lv_istore (lv' := [(9, .int (nI 0)), (8, .int (nI 0)), (7, .null), (6, .null), (5, va_rf r1685), (4, .int (nI 1)), (3, .int (nI 4)), (0, .ref x), (1, .ref y), (2, .int (nI 0))]) hx hb d_p1m14_128 hl (by decide) rfl (fun ls hl => ?_)
              refine pd_oload hx hb d_p1m14_130 (lv_at hl 4 rfl) ?_
              rcases pd_om e1697 with ⟨q1785, q1788⟩ | ⟨i1787, q1785, q1788⟩
              · -- none
                refine pd_top (v' := .null) (by rw [q1788]; rfl) ?_
                rw [q1788] at hl
                have hl : lv_has ls 11 [(9, .int (nI 0)), (8, .int (nI 0)), (7, .null), (6, .null), (5, .null), (4, .int (nI 1)), (3, .int (nI 4)), (0, .ref x), (1, .ref y), (2, .int (nI 0))] := hl
                refine lv_ifnullN (tgt := 145) hx hb d_p1m14_132 (by decide) ?_
                refine lv_bipush (v := -2) hx hb d_p1m14_145 (by decide) ?_
                have hup : gr_up n R cs false = none := (if_pos ⟨rfl, by omega⟩).trans q1785
                have hfi : gr_find R n (gr_w cs 4) = none := q1773
                have hse : gr_find R n (gr_w cs 5) = none := q1779
                have hhd : gr_hd n R cs false 4 (none) (none) (none) = .inl (-2) := rfl
                have hg : gr_dc n R cs false (if false = true then 3 else 4) = ((-2), n, R) := by show gr_dc n R cs false 4 = _; unfold gr_dc; rw [hup, hfi, hse, hhd]
                exact pd_iret (v := (-2)) X w ⟨by rw [hg], pd_kx.mono (us := [6, 7, 8, 9, 10]) (pd_kx.tr (pd_kx.tr (k1660) (k1701)) (k1737)) (by simp), A, (by rw [hg]; exact ⟨lb, cl, me, ru, bk, f1748, hz_x, f1757, f1758, f1759, f1760, f1761, ht60⟩)⟩ (by decide) (by decide) d_p1m14_147
              · -- some
                refine pd_top (v' := .ref (A i1787)) (by rw [q1788]; rfl) ?_
                rw [q1788] at hl
                have hl : lv_has ls 11 [(9, .int (nI 0)), (8, .int (nI 0)), (7, .null), (6, .null), (5, .ref (A i1787)), (4, .int (nI 1)), (3, .int (nI 4)), (0, .ref x), (1, .ref y), (2, .int (nI 0))] := hl
                have i1787lt := gr_fi_lt q1785
                refine lv_ifnull hx hb d_p1m14_132 ?_
                refine lv_iload hx hb d_p1m14_135 (lv_at hl 1 rfl) ?_
                refine pd_zne (tgt := 145) hx hb d_p1m14_137 (by decide) (by decide) (fun q => absurd q (by decide)) (fun _ => ?_)
                refine lv_iload hx hb d_p1m14_140 (lv_at hl 0 rfl) ?_
                refine pd_zeq (tgt := 148) hx hb d_p1m14_142 (by decide) (by decide) (fun _ => ?_) (fun q => absurd q (by decide))
                refine lv_aload_n hx hb d_p1m14_148 rfl (lv_at hl 7 rfl) ?_
                refine pd_get X w f1748 rfl 1 (by decide) mT_368 rfl rfl d_p1m14_149 ?_
                refine lv_aload_n hx hb d_p1m14_152 rfl (lv_at hl 8 rfl) ?_
                refine lv_iconst (v := nI 1) hx hb d_p1m14_153 (by decide) ?_
                refine pd_cV (a := y) (As := [.int (nI 1)]) (rest := [.ref cl]) X w f1749 rfl (c_Line_word l G h1735 (by assumption) (by omega)) ok_Line_word ⟨mT_574, mT_575⟩ mT_573 ⟨by decide, by decide⟩ rfl hl.1 rfl (Nat.le_of_ble_eq_true rfl) d_p1m14_154 ⟨by decide, by decide⟩ (fun r1793 h1794 H locs hp1795 w => ?_)
                refine W.widen (k := 8) (n := 256) (by decide) (by decide) ?_
                obtain ⟨k1796, ds1797, e1798, f1799⟩ := hp1795
                have f1807 := k1796 _ _ f1748 List.not_mem_nil
                have f1808 := k1796 _ _ f1749 List.not_mem_nil
                have f1809 := k1796 _ _ f1750 List.not_mem_nil
                have f1810 := k1796 _ _ f1751 List.not_mem_nil
                have f1811 := k1796 _ _ f1752 List.not_mem_nil
                have f1812 := k1796 _ _ f1753 List.not_mem_nil
                have f1813 := k1796 _ _ f1743 List.not_mem_nil
                have f1814 := k1796 _ _ f1754 List.not_mem_nil
                have f1815 := k1796 _ _ f1755 List.not_mem_nil
                have f1816 := k1796 _ _ f1756 List.not_mem_nil
                have f1817 := k1796 _ _ f1744 List.not_mem_nil
                have f1818 := f1757.kx k1796 List.not_mem_nil List.not_mem_nil
                have f1819 := f1758.kx k1796 List.not_mem_nil List.not_mem_nil List.not_mem_nil
                have f1820 := f1759.kx k1796 List.not_mem_nil List.not_mem_nil List.not_mem_nil
                have f1821 := f1760.kx k1796 List.not_mem_nil List.not_mem_nil List.not_mem_nil
                have f1822 := f1761.kx k1796 List.not_mem_nil List.not_mem_nil List.not_mem_nil List.not_mem_nil List.not_mem_nil
                have f1823 := f1762.kx k1796 List.not_mem_nil
                have f1824 := f1763.kx k1796 List.not_mem_nil
                have f1825 := f1764.kx k1796 List.not_mem_nil
                have f1826 := f1765.kx k1796 List.not_mem_nil
                have f1827 := f1766.kx k1796 List.not_mem_nil
                have f1828 := f1767.kx k1796 List.not_mem_nil
                have f1829 := f1768.kx k1796 List.not_mem_nil
                have f1830 := f1740.kx k1796 List.not_mem_nil
                obtain ⟨v1800, g1801, f1802, f1803, gf1804, gc1805, gl1806⟩ := id f1799
                subst e1798
                refine pd_cV (a := cl) (As := [.ref r1793]) (rest := []) X w f1811 rfl (c_Classes_find l G h1794 (by assumption) (by assumption)) ok_Classes_find ⟨mT_773, mT_774⟩ mT_772 ⟨by decide, by decide⟩ rfl hl.1 rfl (Nat.le_of_ble_eq_true rfl) d_p1m14_157 ⟨by decide, by decide⟩ (fun r1831 h1832 H locs hp1833 w => ?_)
                refine W.widen (k := 8) (n := 256) (by decide) (by decide) ?_
                obtain ⟨e1834, rfl⟩ := hp1833
                rcases pd_om e1834 with ⟨q1835, q1838⟩ | ⟨i1837, q1835, q1838⟩
                · -- none
                  refine pd_top (v' := .null) (by rw [q1838]; rfl) ?_
                  have hl : lv_has ls 11 [(9, .int (nI 0)), (8, .int (nI 0)), (7, .null), (6, .null), (5, .ref (A i1787)), (4, .int (nI 1)), (3, .int (nI 4)), (0, .ref x), (1, .ref y), (2, .int (nI 0))] := hl
                  refine lv_ifnullN (tgt := 166) hx hb d_p1m14_160 (by decide) ?_
                  refine lv_aloadN hx hb d_p1m14_166 (lv_at hl 3 rfl) ?_
                  refine lv_ifnullN (tgt := 182) hx hb d_p1m14_168 (by decide) ?_
                  refine lv_iconst (v := nI 0) hx hb d_p1m14_182 (by decide) ?_
                  refine lv_istore (lv' := [(10, .int (nI 0)), (9, .int (nI 0)), (8, .int (nI 0)), (7, .null), (6, .null), (5, .ref (A i1787)), (4, .int (nI 1)), (3, .int (nI 4)), (0, .ref x), (1, .ref y), (2, .int (nI 0))]) hx hb d_p1m14_183 hl (by decide) rfl (fun ls hl => ?_)
                  refine lv_aload hx hb d_p1m14_185 (lv_at hl 5 rfl) ?_
                  obtain ⟨nm1841, fx1842, f1843, f1844, f1845⟩ := f1823.1 i1787 (by omega)
                  obtain ⟨v1846, g1847, f1848, f1849, gf1850, gc1851, gl1852⟩ := id f1844
                  obtain ⟨v1853, cap1854, g1855, f1856, z1857, z1858, z1859, z1860, z1861⟩ := id f1845
                  refine pd_get X w f1843 rfl 2 (by decide) mT_260 rfl rfl d_p1m14_187 ?_
                  refine pd_bne (tgt := 214) hx hb d_p1m14_190 (by decide) (fun q1862 => ?_) (fun q1862 => ?_)
                  · -- taken: 214
                    refine lv_bipush (v := -4) hx hb d_p1m14_214 (by decide) ?_
                    have hup : gr_up n R cs false = some i1787 := (if_pos ⟨rfl, by omega⟩).trans q1785
                    have hfi : gr_find R n (gr_w cs 4) = none := q1773
                    have hse : gr_find R n (gr_w cs 5) = none := q1779
                    have hhd : gr_hd n R cs false 4 (some i1787) (none) (none) = .inl (-4) := by rw [gr_hd_s, if_neg (by simp; omega), if_neg (by rw [q1835]; simp), if_pos (Or.inl q1862)]
                    have hg : gr_dc n R cs false (if false = true then 3 else 4) = ((-4), n, R) := by show gr_dc n R cs false 4 = _; unfold gr_dc; rw [hup, hfi, hse, hhd]
                    exact pd_iret (v := (-4)) X w ⟨by rw [hg], pd_kx.mono (us := [6, 7, 8, 9, 10]) (pd_kx.tr (pd_kx.tr (pd_kx.tr (k1660) (k1701)) (k1737)) (k1796)) (by simp), A, (by rw [hg]; exact ⟨lb, cl, me, ru, bk, f1807, hz_x, f1818, f1819, f1820, f1821, f1822, ht60⟩)⟩ (by decide) (by decide) d_p1m14_216
                  · -- not taken: 193
                    refine lv_aloadN hx hb d_p1m14_193 (lv_at hl 4 rfl) ?_
                    refine pd_cS (As := [.null]) (rest := []) X w (c_PolicyDesk_isPlainClass l G h1794 (A := A) (n := n) (R := R) (o := none) (by assumption) (fun t ht => by cases ht)) ok_PolicyDesk_isPlainClass mT_778 mT_777 ⟨by decide, by decide⟩ rfl hl.1 rfl (Nat.le_of_ble_eq_true rfl) d_p1m14_195 ⟨by decide, by decide⟩ (fun r1863 h1864 H locs hp1865 w => ?_)
                    refine W.widen (k := 8) (n := 256) (by decide) (by decide) ?_
                    obtain ⟨e1866, rfl⟩ := hp1865
                    refine pd_bne (tgt := 214) hx hb d_p1m14_198 (by decide) (fun q1867 => ?_) (fun q1867 => ?_)
                    · -- taken: 214
                      refine lv_bipush (v := -4) hx hb d_p1m14_214 (by decide) ?_
                      have hup : gr_up n R cs false = some i1787 := (if_pos ⟨rfl, by omega⟩).trans q1785
                      have hfi : gr_find R n (gr_w cs 4) = none := q1773
                      have hse : gr_find R n (gr_w cs 5) = none := q1779
                      have hhd : gr_hd n R cs false 4 (some i1787) (none) (none) = .inl (-4) := by rw [gr_hd_s, if_neg (by simp; omega), if_neg (by rw [q1835]; simp), if_pos (Or.inr (Or.inl (e1866.symm.trans q1867)))]
                      have hg : gr_dc n R cs false (if false = true then 3 else 4) = ((-4), n, R) := by show gr_dc n R cs false 4 = _; unfold gr_dc; rw [hup, hfi, hse, hhd]
                      exact pd_iret (v := (-4)) X w ⟨by rw [hg], pd_kx.mono (us := [6, 7, 8, 9, 10]) (pd_kx.tr (pd_kx.tr (pd_kx.tr (k1660) (k1701)) (k1737)) (k1796)) (by simp), A, (by rw [hg]; exact ⟨lb, cl, me, ru, bk, f1807, hz_x, f1818, f1819, f1820, f1821, f1822, ht60⟩)⟩ (by decide) (by decide) d_p1m14_216
                    · -- not taken: 201
                      refine lv_aloadN hx hb d_p1m14_201 (lv_at hl 3 rfl) ?_
                      refine pd_cS (As := [.null]) (rest := []) X w (c_PolicyDesk_isPlainClass l G h1794 (A := A) (n := n) (R := R) (o := none) (by assumption) (fun t ht => by cases ht)) ok_PolicyDesk_isPlainClass mT_778 mT_777 ⟨by decide, by decide⟩ rfl hl.1 rfl (Nat.le_of_ble_eq_true rfl) d_p1m14_203 ⟨by decide, by decide⟩ (fun r1868 h1869 H locs hp1870 w => ?_)
                      refine W.widen (k := 8) (n := 256) (by decide) (by decide) ?_
                      obtain ⟨e1871, rfl⟩ := hp1870
                      refine pd_bne (tgt := 214) hx hb d_p1m14_206 (by decide) (fun q1872 => ?_) (fun q1872 => ?_)
                      · -- taken: 214
                        refine lv_bipush (v := -4) hx hb d_p1m14_214 (by decide) ?_
                        have hup : gr_up n R cs false = some i1787 := (if_pos ⟨rfl, by omega⟩).trans q1785
                        have hfi : gr_find R n (gr_w cs 4) = none := q1773
                        have hse : gr_find R n (gr_w cs 5) = none := q1779
                        have hhd : gr_hd n R cs false 4 (some i1787) (none) (none) = .inl (-4) := by rw [gr_hd_s, if_neg (by simp; omega), if_neg (by rw [q1835]; simp), if_pos (Or.inr (Or.inr (Or.inl (e1871.symm.trans q1872))))]
                        have hg : gr_dc n R cs false (if false = true then 3 else 4) = ((-4), n, R) := by show gr_dc n R cs false 4 = _; unfold gr_dc; rw [hup, hfi, hse, hhd]
                        exact pd_iret (v := (-4)) X w ⟨by rw [hg], pd_kx.mono (us := [6, 7, 8, 9, 10]) (pd_kx.tr (pd_kx.tr (pd_kx.tr (k1660) (k1701)) (k1737)) (k1796)) (by simp), A, (by rw [hg]; exact ⟨lb, cl, me, ru, bk, f1807, hz_x, f1818, f1819, f1820, f1821, f1822, ht60⟩)⟩ (by decide) (by decide) d_p1m14_216
                      · -- not taken: 209
                        refine lv_iload hx hb d_p1m14_209 (lv_at hl 0 rfl) ?_
                        refine pd_zeq (tgt := 217) hx hb d_p1m14_211 (by decide) (by decide) (fun _ => ?_) (fun q => absurd q (by decide))
                        refine lv_aload_n hx hb d_p1m14_217 rfl (lv_at hl 8 rfl) ?_
                        refine pd_get X w f1807 rfl 1 (by decide) mT_368 rfl rfl d_p1m14_218 ?_
                        refine lv_aload_n hx hb d_p1m14_221 rfl (lv_at hl 9 rfl) ?_
                        refine lv_iconst (v := nI 1) hx hb d_p1m14_222 (by decide) ?_
                        refine pd_cV (a := y) (As := [.int (nI 1)]) (rest := [.ref cl]) X w f1808 rfl (c_Line_word l G h1794 (by assumption) (by omega)) ok_Line_word ⟨mT_574, mT_575⟩ mT_573 ⟨by decide, by decide⟩ rfl hl.1 rfl (Nat.le_of_ble_eq_true rfl) d_p1m14_223 ⟨by decide, by decide⟩ (fun r1874 h1875 H locs hp1876 w => ?_)
                        refine W.widen (k := 10) (n := 320) (by decide) (by decide) ?_
                        obtain ⟨k1877, ds1878, e1879, f1880⟩ := hp1876
                        have f1888 := k1877 _ _ f1807 List.not_mem_nil
                        have f1889 := k1877 _ _ f1808 List.not_mem_nil
                        have f1890 := k1877 _ _ f1809 List.not_mem_nil
                        have f1891 := k1877 _ _ f1810 List.not_mem_nil
                        have f1892 := k1877 _ _ f1811 List.not_mem_nil
                        have f1893 := k1877 _ _ f1812 List.not_mem_nil
                        have f1894 := k1877 _ _ f1813 List.not_mem_nil
                        have f1895 := k1877 _ _ f1802 List.not_mem_nil
                        have f1896 := k1877 _ _ f1843 List.not_mem_nil
                        have f1897 := k1877 _ _ f1848 List.not_mem_nil
                        have f1898 := k1877 _ _ f1856 List.not_mem_nil
                        have f1899 := k1877 _ _ f1814 List.not_mem_nil
                        have f1900 := k1877 _ _ f1815 List.not_mem_nil
                        have f1901 := k1877 _ _ f1816 List.not_mem_nil
                        have f1902 := k1877 _ _ f1817 List.not_mem_nil
                        have f1903 := k1877 _ _ f1803 List.not_mem_nil
                        have f1904 := k1877 _ _ f1849 List.not_mem_nil
                        have f1905 := f1818.kx k1877 List.not_mem_nil List.not_mem_nil
                        have f1906 := f1819.kx k1877 List.not_mem_nil List.not_mem_nil List.not_mem_nil
                        have f1907 := f1820.kx k1877 List.not_mem_nil List.not_mem_nil List.not_mem_nil
                        have f1908 := f1821.kx k1877 List.not_mem_nil List.not_mem_nil List.not_mem_nil
                        have f1909 := f1822.kx k1877 List.not_mem_nil List.not_mem_nil List.not_mem_nil List.not_mem_nil List.not_mem_nil
                        have f1910 := f1823.kx k1877 List.not_mem_nil
                        have f1911 := f1824.kx k1877 List.not_mem_nil
                        have f1912 := f1825.kx k1877 List.not_mem_nil
                        have f1913 := f1826.kx k1877 List.not_mem_nil
                        have f1914 := f1827.kx k1877 List.not_mem_nil
                        have f1915 := f1828.kx k1877 List.not_mem_nil
                        have f1916 := f1829.kx k1877 List.not_mem_nil
                        have f1917 := f1830.kx k1877 List.not_mem_nil
                        have f1918 := f1799.kx k1877 List.not_mem_nil
                        have f1919 := f1844.kx k1877 List.not_mem_nil
                        have f1920 := f1845.kx k1877 List.not_mem_nil List.not_mem_nil List.not_mem_nil
                        obtain ⟨v1881, g1882, f1883, f1884, gf1885, gc1886, gl1887⟩ := id f1880
                        subst e1879
                        refine lv_iload_n hx hb d_p1m14_226 rfl (lv_at hl 10 rfl) ?_
                        refine lv_aload hx hb d_p1m14_227 (lv_at hl 5 rfl) ?_
                        refine lv_aloadN hx hb d_p1m14_229 (lv_at hl 4 rfl) ?_
                        refine lv_aloadN hx hb d_p1m14_231 (lv_at hl 3 rfl) ?_
                        refine pd_cV (a := cl) (As := [.ref r1874, .int (nI 0), .ref (A i1787), .null, .null]) (rest := []) X w f1892 rfl (c_Classes_add l G h1875 (A := A) (n := n) (R := R) (bi := false) (ab := some i1787) (fi := none) (se := none) (by assumption) (by assumption) (fun t ht => by cases ht; omega) (fun t ht => by cases ht) (fun t ht => by cases ht)) ok_Classes_add ⟨mT_781, mT_782⟩ mT_780 ⟨by decide, by decide⟩ rfl hl.1 rfl (Nat.le_of_ble_eq_true rfl) d_p1m14_233 ⟨by decide, by decide⟩ (fun r1921 h1922 H locs hp1923 w => ?_)
                        refine W.widen (k := 40) (n := 752) (by decide) (by decide) ?_
                        obtain ⟨k1924, e1925, A1926, ag1927, f1928⟩ := hp1923
                        have f1929 := k1924 _ _ f1888 (show (5 : Nat) ∉ [6, 7, 8, 9, 10] by decide)
                        have f1930 := k1924 _ _ f1889 (show (0 : Nat) ∉ [6, 7, 8, 9, 10] by decide)
                        have f1931 := k1924 _ _ f1890 (show (0 : Nat) ∉ [6, 7, 8, 9, 10] by decide)
                        have f1932 := k1924 _ _ f1891 (show (0 : Nat) ∉ [6, 7, 8, 9, 10] by decide)
                        have f1933 := k1924 _ _ f1893 (show (0 : Nat) ∉ [6, 7, 8, 9, 10] by decide)
                        have f1934 := k1924 _ _ f1894 (show (0 : Nat) ∉ [6, 7, 8, 9, 10] by decide)
                        have f1935 := k1924 _ _ f1895 (show (0 : Nat) ∉ [6, 7, 8, 9, 10] by decide)
                        have f1936 := k1924 _ _ f1896 (show (0 : Nat) ∉ [6, 7, 8, 9, 10] by decide)
                        have f1937 := k1924 _ _ f1897 (show (0 : Nat) ∉ [6, 7, 8, 9, 10] by decide)
                        have f1938 := k1924 _ _ f1898 (show (0 : Nat) ∉ [6, 7, 8, 9, 10] by decide)
                        have f1939 := k1924 _ _ f1883 (show (0 : Nat) ∉ [6, 7, 8, 9, 10] by decide)
                        have f1940 := k1924 _ _ f1899 (show (0 : Nat) ∉ [6, 7, 8, 9, 10] by decide)
                        have f1941 := k1924 _ _ f1900 (show (0 : Nat) ∉ [6, 7, 8, 9, 10] by decide)
                        have f1942 := k1924 _ _ f1901 (show (0 : Nat) ∉ [6, 7, 8, 9, 10] by decide)
                        have f1943 := k1924 _ _ f1902 (show (0 : Nat) ∉ [6, 7, 8, 9, 10] by decide)
                        have f1944 := k1924 _ _ f1903 (show (0 : Nat) ∉ [6, 7, 8, 9, 10] by decide)
                        have f1945 := k1924 _ _ f1904 (show (0 : Nat) ∉ [6, 7, 8, 9, 10] by decide)
                        have f1946 := k1924 _ _ f1884 (show (0 : Nat) ∉ [6, 7, 8, 9, 10] by decide)
                        have f1947 := f1905.kx k1924 (show (1 : Nat) ∉ [6, 7, 8, 9, 10] by decide) (show (2 : Nat) ∉ [6, 7, 8, 9, 10] by decide)
                        have f1948 := f1907.kx k1924 (show (11 : Nat) ∉ [6, 7, 8, 9, 10] by decide) (show (12 : Nat) ∉ [6, 7, 8, 9, 10] by decide) (show (0 : Nat) ∉ [6, 7, 8, 9, 10] by decide)
                        have f1949 := f1908.kx k1924 (show (13 : Nat) ∉ [6, 7, 8, 9, 10] by decide) (show (14 : Nat) ∉ [6, 7, 8, 9, 10] by decide) (show (0 : Nat) ∉ [6, 7, 8, 9, 10] by decide)
                        have f1950 := f1909.kx k1924 (show (15 : Nat) ∉ [6, 7, 8, 9, 10] by decide) (show (16 : Nat) ∉ [6, 7, 8, 9, 10] by decide) (show (17 : Nat) ∉ [6, 7, 8, 9, 10] by decide) (show (3 : Nat) ∉ [6, 7, 8, 9, 10] by decide) (show (4 : Nat) ∉ [6, 7, 8, 9, 10] by decide)
                        have f1951 := f1911.kx k1924 (show (0 : Nat) ∉ [6, 7, 8, 9, 10] by decide)
                        have f1952 := f1912.kx k1924 (show (0 : Nat) ∉ [6, 7, 8, 9, 10] by decide)
                        have f1953 := f1913.kx k1924 (show (0 : Nat) ∉ [6, 7, 8, 9, 10] by decide)
                        have f1954 := f1914.kx k1924 (show (0 : Nat) ∉ [6, 7, 8, 9, 10] by decide)
                        have f1955 := f1915.kx k1924 (show (0 : Nat) ∉ [6, 7, 8, 9, 10] by decide)
                        have f1956 := f1916.kx k1924 (show (0 : Nat) ∉ [6, 7, 8, 9, 10] by decide)
                        have f1957 := f1917.kx k1924 (show (0 : Nat) ∉ [6, 7, 8, 9, 10] by decide)
                        have f1958 := f1918.kx k1924 (show (0 : Nat) ∉ [6, 7, 8, 9, 10] by decide)
                        have f1959 := f1919.kx k1924 (show (0 : Nat) ∉ [6, 7, 8, 9, 10] by decide)
                        have f1960 := f1920.kx k1924 (show (0 : Nat) ∉ [6, 7, 8, 9, 10] by decide) (show (0 : Nat) ∉ [6, 7, 8, 9, 10] by decide) (show (0 : Nat) ∉ [6, 7, 8, 9, 10] by decide)
                        have f1961 := f1880.kx k1924 (show (0 : Nat) ∉ [6, 7, 8, 9, 10] by decide)
                        have hup : gr_up n R cs false = some i1787 := (if_pos ⟨rfl, by omega⟩).trans q1785
                        have hfi : gr_find R n (gr_w cs 4) = none := q1773
                        have hse : gr_find R n (gr_w cs 5) = none := q1779
                        have hhd : gr_hd n R cs false 4 (some i1787) (none) (none) = .inr i1787 := by rw [gr_hd_s, if_neg (by simp; omega), if_neg (by rw [q1835]; simp), if_neg (fun h9 => by rcases h9 with h9 | h9 | h9 | h9; rw [q1862] at h9; cases h9; rw [← e1866, q1867] at h9; cases h9; rw [← e1871, q1872] at h9; cases h9; exact h9.1 rfl)]
                        have hg : gr_dc n R cs false (if false = true then 3 else 4) = gr_cadd n R (gr_row R n (gr_w cs 1) false (some i1787) (none) (none)) := by show gr_dc n R cs false 4 = _; unfold gr_dc; rw [hup, hfi, hse, hhd]
                        exact pd_iret (v := r1921) X w ⟨by rw [hg]; exact e1925, pd_kx.tr (pd_kx.mono (us := [6, 7, 8, 9, 10]) (pd_kx.tr (pd_kx.tr (pd_kx.tr (pd_kx.tr (k1660) (k1701)) (k1737)) (k1796)) (k1877)) (by simp)) (k1924), A1926, (by rw [hg]; exact ⟨lb, cl, me, ru, bk, f1929, hz_x, f1947, f1928, (pd_Mems.ag f1948 ag1927 gr_cadd_le), f1949, f1950, ht60⟩)⟩ (by decide) (by decide) d_p1m14_236
                · -- some
                  refine pd_top (v' := .ref (A i1837)) (by rw [q1838]; rfl) ?_
                  have hl : lv_has ls 11 [(9, .int (nI 0)), (8, .int (nI 0)), (7, .null), (6, .null), (5, .ref (A i1787)), (4, .int (nI 1)), (3, .int (nI 4)), (0, .ref x), (1, .ref y), (2, .int (nI 0))] := hl
                  have i1837lt := gr_fi_lt q1835
                  refine lv_ifnull hx hb d_p1m14_160 ?_
                  refine lv_bipush (v := -3) hx hb d_p1m14_163 (by decide) ?_
                  have hup : gr_up n R cs false = some i1787 := (if_pos ⟨rfl, by omega⟩).trans q1785
                  have hfi : gr_find R n (gr_w cs 4) = none := q1773
                  have hse : gr_find R n (gr_w cs 5) = none := q1779
                  have hhd : gr_hd n R cs false 4 (some i1787) (none) (none) = .inl (-3) := by rw [gr_hd_s, if_neg (by simp; omega), if_pos (by rw [q1835]; simp)]
                  have hg : gr_dc n R cs false (if false = true then 3 else 4) = ((-3), n, R) := by show gr_dc n R cs false 4 = _; unfold gr_dc; rw [hup, hfi, hse, hhd]
                  exact pd_iret (v := (-3)) X w ⟨by rw [hg], pd_kx.mono (us := [6, 7, 8, 9, 10]) (pd_kx.tr (pd_kx.tr (pd_kx.tr (k1660) (k1701)) (k1737)) (k1796)) (by simp), A, (by rw [hg]; exact ⟨lb, cl, me, ru, bk, f1807, hz_x, f1818, f1819, f1820, f1821, f1822, ht60⟩)⟩ (by decide) (by decide) d_p1m14_165
            · -- not taken: 123
              refine lv_iconst (v := nI 1) hx hb d_p1m14_123 (by decide) ?_
              refine lv_goto (tgt := 128) hx hb d_p1m14_124 (by decide) ?_
              refine lv_istore (lv' := [(9, .int (nI 1)), (8, .int (nI 0)), (7, .null), (6, .null), (5, va_rf r1685), (4, .int (nI 1)), (3, .int (nI 4)), (0, .ref x), (1, .ref y), (2, .int (nI 0))]) hx hb d_p1m14_128 hl (by decide) rfl (fun ls hl => ?_)
              refine pd_oload hx hb d_p1m14_130 (lv_at hl 4 rfl) ?_
              rcases pd_om e1697 with ⟨q1963, q1966⟩ | ⟨i1965, q1963, q1966⟩
              · -- none
                refine pd_top (v' := .null) (by rw [q1966]; rfl) ?_
                rw [q1966] at hl
                have hl : lv_has ls 11 [(9, .int (nI 1)), (8, .int (nI 0)), (7, .null), (6, .null), (5, .null), (4, .int (nI 1)), (3, .int (nI 4)), (0, .ref x), (1, .ref y), (2, .int (nI 0))] := hl
                refine lv_ifnullN (tgt := 145) hx hb d_p1m14_132 (by decide) ?_
                refine lv_bipush (v := -2) hx hb d_p1m14_145 (by decide) ?_
                have hup : gr_up n R cs false = none := (if_pos ⟨rfl, by omega⟩).trans q1963
                have hfi : gr_find R n (gr_w cs 4) = none := q1773
                have hse : gr_find R n (gr_w cs 5) = none := q1779
                have hhd : gr_hd n R cs false 4 (none) (none) (none) = .inl (-2) := rfl
                have hg : gr_dc n R cs false (if false = true then 3 else 4) = ((-2), n, R) := by show gr_dc n R cs false 4 = _; unfold gr_dc; rw [hup, hfi, hse, hhd]
                exact pd_iret (v := (-2)) X w ⟨by rw [hg], pd_kx.mono (us := [6, 7, 8, 9, 10]) (pd_kx.tr (pd_kx.tr (k1660) (k1701)) (k1737)) (by simp), A, (by rw [hg]; exact ⟨lb, cl, me, ru, bk, f1748, hz_x, f1757, f1758, f1759, f1760, f1761, ht60⟩)⟩ (by decide) (by decide) d_p1m14_147
              · -- some
                refine pd_top (v' := .ref (A i1965)) (by rw [q1966]; rfl) ?_
                rw [q1966] at hl
                have hl : lv_has ls 11 [(9, .int (nI 1)), (8, .int (nI 0)), (7, .null), (6, .null), (5, .ref (A i1965)), (4, .int (nI 1)), (3, .int (nI 4)), (0, .ref x), (1, .ref y), (2, .int (nI 0))] := hl
                have i1965lt := gr_fi_lt q1963
                refine lv_ifnull hx hb d_p1m14_132 ?_
                refine lv_iload hx hb d_p1m14_135 (lv_at hl 1 rfl) ?_
                refine pd_zne (tgt := 145) hx hb d_p1m14_137 (by decide) (by decide) (fun q => absurd q (by decide)) (fun _ => ?_)
                refine lv_iload hx hb d_p1m14_140 (lv_at hl 0 rfl) ?_
                refine pd_zeq (tgt := 148) hx hb d_p1m14_142 (by decide) (by decide) (fun q => absurd q (by decide)) (fun _ => ?_)
                refine lv_bipush (v := -2) hx hb d_p1m14_145 (by decide) ?_
                have hup : gr_up n R cs false = some i1965 := (if_pos ⟨rfl, by omega⟩).trans q1963
                have hfi : gr_find R n (gr_w cs 4) = none := q1773
                have hse : gr_find R n (gr_w cs 5) = none := q1779
                have hhd : gr_hd n R cs false 4 (some i1965) (none) (none) = .inl (-2) := by rw [gr_hd_s, if_pos (by simp; omega)]
                have hg : gr_dc n R cs false (if false = true then 3 else 4) = ((-2), n, R) := by show gr_dc n R cs false 4 = _; unfold gr_dc; rw [hup, hfi, hse, hhd]
                exact pd_iret (v := (-2)) X w ⟨by rw [hg], pd_kx.mono (us := [6, 7, 8, 9, 10]) (pd_kx.tr (pd_kx.tr (k1660) (k1701)) (k1737)) (by simp), A, (by rw [hg]; exact ⟨lb, cl, me, ru, bk, f1748, hz_x, f1757, f1758, f1759, f1760, f1761, ht60⟩)⟩ (by decide) (by decide) d_p1m14_147
          · -- some
            refine pd_top (v' := .ref (A i1781)) (by rw [q1782]; rfl) ?_
            rw [q1782] at hl
            have hl : lv_has ls 11 [(8, .int (nI 0)), (7, .ref (A i1781)), (6, .null), (5, va_rf r1685), (4, .int (nI 1)), (3, .int (nI 4)), (0, .ref x), (1, .ref y), (2, .int (nI 0))] := hl
            have i1781lt := gr_fi_lt q1779
            refine lv_ifnonnull (tgt := 127) hx hb d_p1m14_110 (by decide) ?_
            refine lv_iconst (v := nI 0) hx hb d_p1m14_127 (by decide) ?_
            refine lv_istore (lv' := [(9, .int (nI 0)), (8, .int (nI 0)), (7, .ref (A i1781)), (6, .null), (5, va_rf r1685), (4, .int (nI 1)), (3, .int (nI 4)), (0, .ref x), (1, .ref y), (2, .int (nI 0))]) hx hb d_p1m14_128 hl (by decide) rfl (fun ls hl => ?_)
            refine pd_oload hx hb d_p1m14_130 (lv_at hl 4 rfl) ?_
            rcases pd_om e1697 with ⟨q1972, q1975⟩ | ⟨i1974, q1972, q1975⟩
            · -- none
              refine pd_top (v' := .null) (by rw [q1975]; rfl) ?_
              rw [q1975] at hl
              have hl : lv_has ls 11 [(9, .int (nI 0)), (8, .int (nI 0)), (7, .ref (A i1781)), (6, .null), (5, .null), (4, .int (nI 1)), (3, .int (nI 4)), (0, .ref x), (1, .ref y), (2, .int (nI 0))] := hl
              refine lv_ifnullN (tgt := 145) hx hb d_p1m14_132 (by decide) ?_
              refine lv_bipush (v := -2) hx hb d_p1m14_145 (by decide) ?_
              have hup : gr_up n R cs false = none := (if_pos ⟨rfl, by omega⟩).trans q1972
              have hfi : gr_find R n (gr_w cs 4) = none := q1773
              have hse : gr_find R n (gr_w cs 5) = some i1781 := q1779
              have hhd : gr_hd n R cs false 4 (none) (none) (some i1781) = .inl (-2) := rfl
              have hg : gr_dc n R cs false (if false = true then 3 else 4) = ((-2), n, R) := by show gr_dc n R cs false 4 = _; unfold gr_dc; rw [hup, hfi, hse, hhd]
              exact pd_iret (v := (-2)) X w ⟨by rw [hg], pd_kx.mono (us := [6, 7, 8, 9, 10]) (pd_kx.tr (pd_kx.tr (k1660) (k1701)) (k1737)) (by simp), A, (by rw [hg]; exact ⟨lb, cl, me, ru, bk, f1748, hz_x, f1757, f1758, f1759, f1760, f1761, ht60⟩)⟩ (by decide) (by decide) d_p1m14_147
            · -- some
              refine pd_top (v' := .ref (A i1974)) (by rw [q1975]; rfl) ?_
              rw [q1975] at hl
              have hl : lv_has ls 11 [(9, .int (nI 0)), (8, .int (nI 0)), (7, .ref (A i1781)), (6, .null), (5, .ref (A i1974)), (4, .int (nI 1)), (3, .int (nI 4)), (0, .ref x), (1, .ref y), (2, .int (nI 0))] := hl
              have i1974lt := gr_fi_lt q1972
              refine lv_ifnull hx hb d_p1m14_132 ?_
              refine lv_iload hx hb d_p1m14_135 (lv_at hl 1 rfl) ?_
              refine pd_zne (tgt := 145) hx hb d_p1m14_137 (by decide) (by decide) (fun q => absurd q (by decide)) (fun _ => ?_)
              refine lv_iload hx hb d_p1m14_140 (lv_at hl 0 rfl) ?_
              refine pd_zeq (tgt := 148) hx hb d_p1m14_142 (by decide) (by decide) (fun _ => ?_) (fun q => absurd q (by decide))
              refine lv_aload_n hx hb d_p1m14_148 rfl (lv_at hl 7 rfl) ?_
              refine pd_get X w f1748 rfl 1 (by decide) mT_368 rfl rfl d_p1m14_149 ?_
              refine lv_aload_n hx hb d_p1m14_152 rfl (lv_at hl 8 rfl) ?_
              refine lv_iconst (v := nI 1) hx hb d_p1m14_153 (by decide) ?_
              refine pd_cV (a := y) (As := [.int (nI 1)]) (rest := [.ref cl]) X w f1749 rfl (c_Line_word l G h1735 (by assumption) (by omega)) ok_Line_word ⟨mT_574, mT_575⟩ mT_573 ⟨by decide, by decide⟩ rfl hl.1 rfl (Nat.le_of_ble_eq_true rfl) d_p1m14_154 ⟨by decide, by decide⟩ (fun r1980 h1981 H locs hp1982 w => ?_)
              refine W.widen (k := 8) (n := 256) (by decide) (by decide) ?_
              obtain ⟨k1983, ds1984, e1985, f1986⟩ := hp1982
              have f1994 := k1983 _ _ f1748 List.not_mem_nil
              have f1995 := k1983 _ _ f1749 List.not_mem_nil
              have f1996 := k1983 _ _ f1750 List.not_mem_nil
              have f1997 := k1983 _ _ f1751 List.not_mem_nil
              have f1998 := k1983 _ _ f1752 List.not_mem_nil
              have f1999 := k1983 _ _ f1753 List.not_mem_nil
              have f2000 := k1983 _ _ f1743 List.not_mem_nil
              have f2001 := k1983 _ _ f1754 List.not_mem_nil
              have f2002 := k1983 _ _ f1755 List.not_mem_nil
              have f2003 := k1983 _ _ f1756 List.not_mem_nil
              have f2004 := k1983 _ _ f1744 List.not_mem_nil
              have f2005 := f1757.kx k1983 List.not_mem_nil List.not_mem_nil
              have f2006 := f1758.kx k1983 List.not_mem_nil List.not_mem_nil List.not_mem_nil
              have f2007 := f1759.kx k1983 List.not_mem_nil List.not_mem_nil List.not_mem_nil
              have f2008 := f1760.kx k1983 List.not_mem_nil List.not_mem_nil List.not_mem_nil
              have f2009 := f1761.kx k1983 List.not_mem_nil List.not_mem_nil List.not_mem_nil List.not_mem_nil List.not_mem_nil
              have f2010 := f1762.kx k1983 List.not_mem_nil
              have f2011 := f1763.kx k1983 List.not_mem_nil
              have f2012 := f1764.kx k1983 List.not_mem_nil
              have f2013 := f1765.kx k1983 List.not_mem_nil
              have f2014 := f1766.kx k1983 List.not_mem_nil
              have f2015 := f1767.kx k1983 List.not_mem_nil
              have f2016 := f1768.kx k1983 List.not_mem_nil
              have f2017 := f1740.kx k1983 List.not_mem_nil
              obtain ⟨v1987, g1988, f1989, f1990, gf1991, gc1992, gl1993⟩ := id f1986
              subst e1985
              refine pd_cV (a := cl) (As := [.ref r1980]) (rest := []) X w f1998 rfl (c_Classes_find l G h1981 (by assumption) (by assumption)) ok_Classes_find ⟨mT_773, mT_774⟩ mT_772 ⟨by decide, by decide⟩ rfl hl.1 rfl (Nat.le_of_ble_eq_true rfl) d_p1m14_157 ⟨by decide, by decide⟩ (fun r2018 h2019 H locs hp2020 w => ?_)
              refine W.widen (k := 8) (n := 256) (by decide) (by decide) ?_
              obtain ⟨e2021, rfl⟩ := hp2020
              rcases pd_om e2021 with ⟨q2022, q2025⟩ | ⟨i2024, q2022, q2025⟩
              · -- none
                refine pd_top (v' := .null) (by rw [q2025]; rfl) ?_
                have hl : lv_has ls 11 [(9, .int (nI 0)), (8, .int (nI 0)), (7, .ref (A i1781)), (6, .null), (5, .ref (A i1974)), (4, .int (nI 1)), (3, .int (nI 4)), (0, .ref x), (1, .ref y), (2, .int (nI 0))] := hl
                refine lv_ifnullN (tgt := 166) hx hb d_p1m14_160 (by decide) ?_
                refine lv_aloadN hx hb d_p1m14_166 (lv_at hl 3 rfl) ?_
                refine lv_ifnullN (tgt := 182) hx hb d_p1m14_168 (by decide) ?_
                refine lv_iconst (v := nI 0) hx hb d_p1m14_182 (by decide) ?_
                refine lv_istore (lv' := [(10, .int (nI 0)), (9, .int (nI 0)), (8, .int (nI 0)), (7, .ref (A i1781)), (6, .null), (5, .ref (A i1974)), (4, .int (nI 1)), (3, .int (nI 4)), (0, .ref x), (1, .ref y), (2, .int (nI 0))]) hx hb d_p1m14_183 hl (by decide) rfl (fun ls hl => ?_)
                refine lv_aload hx hb d_p1m14_185 (lv_at hl 5 rfl) ?_
                obtain ⟨nm2028, fx2029, f2030, f2031, f2032⟩ := f2010.1 i1974 (by omega)
                obtain ⟨v2033, g2034, f2035, f2036, gf2037, gc2038, gl2039⟩ := id f2031
                obtain ⟨v2040, cap2041, g2042, f2043, z2044, z2045, z2046, z2047, z2048⟩ := id f2032
                refine pd_get X w f2030 rfl 2 (by decide) mT_260 rfl rfl d_p1m14_187 ?_
                refine pd_bne (tgt := 214) hx hb d_p1m14_190 (by decide) (fun q2049 => ?_) (fun q2049 => ?_)
                · -- taken: 214
                  refine lv_bipush (v := -4) hx hb d_p1m14_214 (by decide) ?_
                  have hup : gr_up n R cs false = some i1974 := (if_pos ⟨rfl, by omega⟩).trans q1972
                  have hfi : gr_find R n (gr_w cs 4) = none := q1773
                  have hse : gr_find R n (gr_w cs 5) = some i1781 := q1779
                  have hhd : gr_hd n R cs false 4 (some i1974) (none) (some i1781) = .inl (-4) := by rw [gr_hd_s, if_neg (by simp; omega), if_neg (by rw [q2022]; simp), if_pos (Or.inl q2049)]
                  have hg : gr_dc n R cs false (if false = true then 3 else 4) = ((-4), n, R) := by show gr_dc n R cs false 4 = _; unfold gr_dc; rw [hup, hfi, hse, hhd]
                  exact pd_iret (v := (-4)) X w ⟨by rw [hg], pd_kx.mono (us := [6, 7, 8, 9, 10]) (pd_kx.tr (pd_kx.tr (pd_kx.tr (k1660) (k1701)) (k1737)) (k1983)) (by simp), A, (by rw [hg]; exact ⟨lb, cl, me, ru, bk, f1994, hz_x, f2005, f2006, f2007, f2008, f2009, ht60⟩)⟩ (by decide) (by decide) d_p1m14_216
                · -- not taken: 193
                  refine lv_aloadN hx hb d_p1m14_193 (lv_at hl 4 rfl) ?_
                  refine pd_cS (As := [.null]) (rest := []) X w (c_PolicyDesk_isPlainClass l G h1981 (A := A) (n := n) (R := R) (o := none) (by assumption) (fun t ht => by cases ht)) ok_PolicyDesk_isPlainClass mT_778 mT_777 ⟨by decide, by decide⟩ rfl hl.1 rfl (Nat.le_of_ble_eq_true rfl) d_p1m14_195 ⟨by decide, by decide⟩ (fun r2050 h2051 H locs hp2052 w => ?_)
                  refine W.widen (k := 8) (n := 256) (by decide) (by decide) ?_
                  obtain ⟨e2053, rfl⟩ := hp2052
                  refine pd_bne (tgt := 214) hx hb d_p1m14_198 (by decide) (fun q2054 => ?_) (fun q2054 => ?_)
                  · -- taken: 214
                    refine lv_bipush (v := -4) hx hb d_p1m14_214 (by decide) ?_
                    have hup : gr_up n R cs false = some i1974 := (if_pos ⟨rfl, by omega⟩).trans q1972
                    have hfi : gr_find R n (gr_w cs 4) = none := q1773
                    have hse : gr_find R n (gr_w cs 5) = some i1781 := q1779
                    have hhd : gr_hd n R cs false 4 (some i1974) (none) (some i1781) = .inl (-4) := by rw [gr_hd_s, if_neg (by simp; omega), if_neg (by rw [q2022]; simp), if_pos (Or.inr (Or.inl (e2053.symm.trans q2054)))]
                    have hg : gr_dc n R cs false (if false = true then 3 else 4) = ((-4), n, R) := by show gr_dc n R cs false 4 = _; unfold gr_dc; rw [hup, hfi, hse, hhd]
                    exact pd_iret (v := (-4)) X w ⟨by rw [hg], pd_kx.mono (us := [6, 7, 8, 9, 10]) (pd_kx.tr (pd_kx.tr (pd_kx.tr (k1660) (k1701)) (k1737)) (k1983)) (by simp), A, (by rw [hg]; exact ⟨lb, cl, me, ru, bk, f1994, hz_x, f2005, f2006, f2007, f2008, f2009, ht60⟩)⟩ (by decide) (by decide) d_p1m14_216
                  · -- not taken: 201
                    refine lv_aload hx hb d_p1m14_201 (lv_at hl 3 rfl) ?_
                    refine pd_cS (As := [.ref (A i1781)]) (rest := []) X w (c_PolicyDesk_isPlainClass l G h1981 (A := A) (n := n) (R := R) (o := some i1781) (by assumption) (fun t ht => by cases ht; omega)) ok_PolicyDesk_isPlainClass mT_778 mT_777 ⟨by decide, by decide⟩ rfl hl.1 rfl (Nat.le_of_ble_eq_true rfl) d_p1m14_203 ⟨by decide, by decide⟩ (fun r2055 h2056 H locs hp2057 w => ?_)
                    refine W.widen (k := 8) (n := 256) (by decide) (by decide) ?_
                    obtain ⟨e2058, rfl⟩ := hp2057
                    refine pd_bne (tgt := 214) hx hb d_p1m14_206 (by decide) (fun q2059 => ?_) (fun q2059 => ?_)
                    · -- taken: 214
                      refine lv_bipush (v := -4) hx hb d_p1m14_214 (by decide) ?_
                      have hup : gr_up n R cs false = some i1974 := (if_pos ⟨rfl, by omega⟩).trans q1972
                      have hfi : gr_find R n (gr_w cs 4) = none := q1773
                      have hse : gr_find R n (gr_w cs 5) = some i1781 := q1779
                      have hhd : gr_hd n R cs false 4 (some i1974) (none) (some i1781) = .inl (-4) := by rw [gr_hd_s, if_neg (by simp; omega), if_neg (by rw [q2022]; simp), if_pos (Or.inr (Or.inr (Or.inl (e2058.symm.trans q2059))))]
                      have hg : gr_dc n R cs false (if false = true then 3 else 4) = ((-4), n, R) := by show gr_dc n R cs false 4 = _; unfold gr_dc; rw [hup, hfi, hse, hhd]
                      exact pd_iret (v := (-4)) X w ⟨by rw [hg], pd_kx.mono (us := [6, 7, 8, 9, 10]) (pd_kx.tr (pd_kx.tr (pd_kx.tr (k1660) (k1701)) (k1737)) (k1983)) (by simp), A, (by rw [hg]; exact ⟨lb, cl, me, ru, bk, f1994, hz_x, f2005, f2006, f2007, f2008, f2009, ht60⟩)⟩ (by decide) (by decide) d_p1m14_216
                    · -- not taken: 209
                      refine lv_iload hx hb d_p1m14_209 (lv_at hl 0 rfl) ?_
                      refine pd_zeq (tgt := 217) hx hb d_p1m14_211 (by decide) (by decide) (fun _ => ?_) (fun q => absurd q (by decide))
                      refine lv_aload_n hx hb d_p1m14_217 rfl (lv_at hl 8 rfl) ?_
                      refine pd_get X w f1994 rfl 1 (by decide) mT_368 rfl rfl d_p1m14_218 ?_
                      refine lv_aload_n hx hb d_p1m14_221 rfl (lv_at hl 9 rfl) ?_
                      refine lv_iconst (v := nI 1) hx hb d_p1m14_222 (by decide) ?_
                      refine pd_cV (a := y) (As := [.int (nI 1)]) (rest := [.ref cl]) X w f1995 rfl (c_Line_word l G h1981 (by assumption) (by omega)) ok_Line_word ⟨mT_574, mT_575⟩ mT_573 ⟨by decide, by decide⟩ rfl hl.1 rfl (Nat.le_of_ble_eq_true rfl) d_p1m14_223 ⟨by decide, by decide⟩ (fun r2061 h2062 H locs hp2063 w => ?_)
                      refine W.widen (k := 10) (n := 320) (by decide) (by decide) ?_
                      obtain ⟨k2064, ds2065, e2066, f2067⟩ := hp2063
                      have f2075 := k2064 _ _ f1994 List.not_mem_nil
                      have f2076 := k2064 _ _ f1995 List.not_mem_nil
                      have f2077 := k2064 _ _ f1996 List.not_mem_nil
                      have f2078 := k2064 _ _ f1997 List.not_mem_nil
                      have f2079 := k2064 _ _ f1998 List.not_mem_nil
                      have f2080 := k2064 _ _ f1999 List.not_mem_nil
                      have f2081 := k2064 _ _ f2000 List.not_mem_nil
                      have f2082 := k2064 _ _ f1989 List.not_mem_nil
                      have f2083 := k2064 _ _ f2030 List.not_mem_nil
                      have f2084 := k2064 _ _ f2035 List.not_mem_nil
                      have f2085 := k2064 _ _ f2043 List.not_mem_nil
                      have f2086 := k2064 _ _ f2001 List.not_mem_nil
                      have f2087 := k2064 _ _ f2002 List.not_mem_nil
                      have f2088 := k2064 _ _ f2003 List.not_mem_nil
                      have f2089 := k2064 _ _ f2004 List.not_mem_nil
                      have f2090 := k2064 _ _ f1990 List.not_mem_nil
                      have f2091 := k2064 _ _ f2036 List.not_mem_nil
                      have f2092 := f2005.kx k2064 List.not_mem_nil List.not_mem_nil
                      have f2093 := f2006.kx k2064 List.not_mem_nil List.not_mem_nil List.not_mem_nil
                      have f2094 := f2007.kx k2064 List.not_mem_nil List.not_mem_nil List.not_mem_nil
                      have f2095 := f2008.kx k2064 List.not_mem_nil List.not_mem_nil List.not_mem_nil
                      have f2096 := f2009.kx k2064 List.not_mem_nil List.not_mem_nil List.not_mem_nil List.not_mem_nil List.not_mem_nil
                      have f2097 := f2010.kx k2064 List.not_mem_nil
                      have f2098 := f2011.kx k2064 List.not_mem_nil
                      have f2099 := f2012.kx k2064 List.not_mem_nil
                      have f2100 := f2013.kx k2064 List.not_mem_nil
                      have f2101 := f2014.kx k2064 List.not_mem_nil
                      have f2102 := f2015.kx k2064 List.not_mem_nil
                      have f2103 := f2016.kx k2064 List.not_mem_nil
                      have f2104 := f2017.kx k2064 List.not_mem_nil
                      have f2105 := f1986.kx k2064 List.not_mem_nil
                      have f2106 := f2031.kx k2064 List.not_mem_nil
                      have f2107 := f2032.kx k2064 List.not_mem_nil List.not_mem_nil List.not_mem_nil
                      obtain ⟨v2068, g2069, f2070, f2071, gf2072, gc2073, gl2074⟩ := id f2067
                      subst e2066
                      refine lv_iload_n hx hb d_p1m14_226 rfl (lv_at hl 10 rfl) ?_
                      refine lv_aload hx hb d_p1m14_227 (lv_at hl 5 rfl) ?_
                      refine lv_aloadN hx hb d_p1m14_229 (lv_at hl 4 rfl) ?_
                      refine lv_aload hx hb d_p1m14_231 (lv_at hl 3 rfl) ?_
                      refine pd_cV (a := cl) (As := [.ref r2061, .int (nI 0), .ref (A i1974), .null, .ref (A i1781)]) (rest := []) X w f2079 rfl (c_Classes_add l G h2062 (A := A) (n := n) (R := R) (bi := false) (ab := some i1974) (fi := none) (se := some i1781) (by assumption) (by assumption) (fun t ht => by cases ht; omega) (fun t ht => by cases ht) (fun t ht => by cases ht; omega)) ok_Classes_add ⟨mT_781, mT_782⟩ mT_780 ⟨by decide, by decide⟩ rfl hl.1 rfl (Nat.le_of_ble_eq_true rfl) d_p1m14_233 ⟨by decide, by decide⟩ (fun r2108 h2109 H locs hp2110 w => ?_)
                      refine W.widen (k := 40) (n := 752) (by decide) (by decide) ?_
                      obtain ⟨k2111, e2112, A2113, ag2114, f2115⟩ := hp2110
                      have f2116 := k2111 _ _ f2075 (show (5 : Nat) ∉ [6, 7, 8, 9, 10] by decide)
                      have f2117 := k2111 _ _ f2076 (show (0 : Nat) ∉ [6, 7, 8, 9, 10] by decide)
                      have f2118 := k2111 _ _ f2077 (show (0 : Nat) ∉ [6, 7, 8, 9, 10] by decide)
                      have f2119 := k2111 _ _ f2078 (show (0 : Nat) ∉ [6, 7, 8, 9, 10] by decide)
                      have f2120 := k2111 _ _ f2080 (show (0 : Nat) ∉ [6, 7, 8, 9, 10] by decide)
                      have f2121 := k2111 _ _ f2081 (show (0 : Nat) ∉ [6, 7, 8, 9, 10] by decide)
                      have f2122 := k2111 _ _ f2082 (show (0 : Nat) ∉ [6, 7, 8, 9, 10] by decide)
                      have f2123 := k2111 _ _ f2083 (show (0 : Nat) ∉ [6, 7, 8, 9, 10] by decide)
                      have f2124 := k2111 _ _ f2084 (show (0 : Nat) ∉ [6, 7, 8, 9, 10] by decide)
                      have f2125 := k2111 _ _ f2085 (show (0 : Nat) ∉ [6, 7, 8, 9, 10] by decide)
                      have f2126 := k2111 _ _ f2070 (show (0 : Nat) ∉ [6, 7, 8, 9, 10] by decide)
                      have f2127 := k2111 _ _ f2086 (show (0 : Nat) ∉ [6, 7, 8, 9, 10] by decide)
                      have f2128 := k2111 _ _ f2087 (show (0 : Nat) ∉ [6, 7, 8, 9, 10] by decide)
                      have f2129 := k2111 _ _ f2088 (show (0 : Nat) ∉ [6, 7, 8, 9, 10] by decide)
                      have f2130 := k2111 _ _ f2089 (show (0 : Nat) ∉ [6, 7, 8, 9, 10] by decide)
                      have f2131 := k2111 _ _ f2090 (show (0 : Nat) ∉ [6, 7, 8, 9, 10] by decide)
                      have f2132 := k2111 _ _ f2091 (show (0 : Nat) ∉ [6, 7, 8, 9, 10] by decide)
                      have f2133 := k2111 _ _ f2071 (show (0 : Nat) ∉ [6, 7, 8, 9, 10] by decide)
                      have f2134 := f2092.kx k2111 (show (1 : Nat) ∉ [6, 7, 8, 9, 10] by decide) (show (2 : Nat) ∉ [6, 7, 8, 9, 10] by decide)
                      have f2135 := f2094.kx k2111 (show (11 : Nat) ∉ [6, 7, 8, 9, 10] by decide) (show (12 : Nat) ∉ [6, 7, 8, 9, 10] by decide) (show (0 : Nat) ∉ [6, 7, 8, 9, 10] by decide)
                      have f2136 := f2095.kx k2111 (show (13 : Nat) ∉ [6, 7, 8, 9, 10] by decide) (show (14 : Nat) ∉ [6, 7, 8, 9, 10] by decide) (show (0 : Nat) ∉ [6, 7, 8, 9, 10] by decide)
                      have f2137 := f2096.kx k2111 (show (15 : Nat) ∉ [6, 7, 8, 9, 10] by decide) (show (16 : Nat) ∉ [6, 7, 8, 9, 10] by decide) (show (17 : Nat) ∉ [6, 7, 8, 9, 10] by decide) (show (3 : Nat) ∉ [6, 7, 8, 9, 10] by decide) (show (4 : Nat) ∉ [6, 7, 8, 9, 10] by decide)
                      have f2138 := f2098.kx k2111 (show (0 : Nat) ∉ [6, 7, 8, 9, 10] by decide)
                      have f2139 := f2099.kx k2111 (show (0 : Nat) ∉ [6, 7, 8, 9, 10] by decide)
                      have f2140 := f2100.kx k2111 (show (0 : Nat) ∉ [6, 7, 8, 9, 10] by decide)
                      have f2141 := f2101.kx k2111 (show (0 : Nat) ∉ [6, 7, 8, 9, 10] by decide)
                      have f2142 := f2102.kx k2111 (show (0 : Nat) ∉ [6, 7, 8, 9, 10] by decide)
                      have f2143 := f2103.kx k2111 (show (0 : Nat) ∉ [6, 7, 8, 9, 10] by decide)
                      have f2144 := f2104.kx k2111 (show (0 : Nat) ∉ [6, 7, 8, 9, 10] by decide)
                      have f2145 := f2105.kx k2111 (show (0 : Nat) ∉ [6, 7, 8, 9, 10] by decide)
                      have f2146 := f2106.kx k2111 (show (0 : Nat) ∉ [6, 7, 8, 9, 10] by decide)
                      have f2147 := f2107.kx k2111 (show (0 : Nat) ∉ [6, 7, 8, 9, 10] by decide) (show (0 : Nat) ∉ [6, 7, 8, 9, 10] by decide) (show (0 : Nat) ∉ [6, 7, 8, 9, 10] by decide)
                      have f2148 := f2067.kx k2111 (show (0 : Nat) ∉ [6, 7, 8, 9, 10] by decide)
                      have hup : gr_up n R cs false = some i1974 := (if_pos ⟨rfl, by omega⟩).trans q1972
                      have hfi : gr_find R n (gr_w cs 4) = none := q1773
                      have hse : gr_find R n (gr_w cs 5) = some i1781 := q1779
                      have hhd : gr_hd n R cs false 4 (some i1974) (none) (some i1781) = .inr i1974 := by rw [gr_hd_s, if_neg (by simp; omega), if_neg (by rw [q2022]; simp), if_neg (fun h9 => by rcases h9 with h9 | h9 | h9 | h9; rw [q2049] at h9; cases h9; rw [← e2053, q2054] at h9; cases h9; rw [← e2058, q2059] at h9; cases h9; exact h9.1 rfl)]
                      have hg : gr_dc n R cs false (if false = true then 3 else 4) = gr_cadd n R (gr_row R n (gr_w cs 1) false (some i1974) (none) (some i1781)) := by show gr_dc n R cs false 4 = _; unfold gr_dc; rw [hup, hfi, hse, hhd]
                      exact pd_iret (v := r2108) X w ⟨by rw [hg]; exact e2112, pd_kx.tr (pd_kx.mono (us := [6, 7, 8, 9, 10]) (pd_kx.tr (pd_kx.tr (pd_kx.tr (pd_kx.tr (k1660) (k1701)) (k1737)) (k1983)) (k2064)) (by simp)) (k2111), A2113, (by rw [hg]; exact ⟨lb, cl, me, ru, bk, f2116, hz_x, f2134, f2115, (pd_Mems.ag f2135 ag2114 gr_cadd_le), f2136, f2137, ht60⟩)⟩ (by decide) (by decide) d_p1m14_236
              · -- some
                refine pd_top (v' := .ref (A i2024)) (by rw [q2025]; rfl) ?_
                have hl : lv_has ls 11 [(9, .int (nI 0)), (8, .int (nI 0)), (7, .ref (A i1781)), (6, .null), (5, .ref (A i1974)), (4, .int (nI 1)), (3, .int (nI 4)), (0, .ref x), (1, .ref y), (2, .int (nI 0))] := hl
                have i2024lt := gr_fi_lt q2022
                refine lv_ifnull hx hb d_p1m14_160 ?_
                refine lv_bipush (v := -3) hx hb d_p1m14_163 (by decide) ?_
                have hup : gr_up n R cs false = some i1974 := (if_pos ⟨rfl, by omega⟩).trans q1972
                have hfi : gr_find R n (gr_w cs 4) = none := q1773
                have hse : gr_find R n (gr_w cs 5) = some i1781 := q1779
                have hhd : gr_hd n R cs false 4 (some i1974) (none) (some i1781) = .inl (-3) := by rw [gr_hd_s, if_neg (by simp; omega), if_pos (by rw [q2022]; simp)]
                have hg : gr_dc n R cs false (if false = true then 3 else 4) = ((-3), n, R) := by show gr_dc n R cs false 4 = _; unfold gr_dc; rw [hup, hfi, hse, hhd]
                exact pd_iret (v := (-3)) X w ⟨by rw [hg], pd_kx.mono (us := [6, 7, 8, 9, 10]) (pd_kx.tr (pd_kx.tr (pd_kx.tr (k1660) (k1701)) (k1737)) (k1983)) (by simp), A, (by rw [hg]; exact ⟨lb, cl, me, ru, bk, f1994, hz_x, f2005, f2006, f2007, f2008, f2009, ht60⟩)⟩ (by decide) (by decide) d_p1m14_165
        · -- not taken: 101
          refine lv_iconst (v := nI 1) hx hb d_p1m14_101 (by decide) ?_
          refine lv_goto (tgt := 106) hx hb d_p1m14_102 (by decide) ?_
          refine lv_istore (lv' := [(8, .int (nI 1)), (7, va_rf r1769), (6, .null), (5, va_rf r1685), (4, .int (nI 1)), (3, .int (nI 4)), (0, .ref x), (1, .ref y), (2, .int (nI 0))]) hx hb d_p1m14_106 hl (by decide) (by simp [pd_cat]) (fun ls hl => ?_)
          refine pd_oload hx hb d_p1m14_108 (lv_at hl 1 rfl) ?_
          rcases pd_om e1772 with ⟨q2150, q2153⟩ | ⟨i2152, q2150, q2153⟩
          · -- none
            refine pd_top (v' := .null) (by rw [q2153]; rfl) ?_
            rw [q2153] at hl
            have hl : lv_has ls 11 [(8, .int (nI 1)), (7, .null), (6, .null), (5, va_rf r1685), (4, .int (nI 1)), (3, .int (nI 4)), (0, .ref x), (1, .ref y), (2, .int (nI 0))] := hl
            refine lv_ifnonnullN hx hb d_p1m14_110 ?_
            refine lv_aload_n hx hb d_p1m14_113 rfl (lv_at hl 7 rfl) ?_
            refine pd_get X w f1749 rfl 1 (by decide) mT_544 rfl rfl d_p1m14_114 ?_
            refine lv_iload_n hx hb d_p1m14_117 rfl (lv_at hl 5 rfl) ?_
            refine lv_iconst (v := nI 1) hx hb d_p1m14_118 (by decide) ?_
            refine pd_iadd hx hb d_p1m14_119 ?_
            refine pd_jle (tgt := 127) hx hb d_p1m14_120 (by decide) (by omega) (by omega) (fun q2155 => ?_) (fun q2155 => ?_)
            · -- taken: 127
              refine lv_iconst (v := nI 0) hx hb d_p1m14_127 (by decide) ?_
              refine lv_istore (lv' := [(9, .int (nI 0)), (8, .int (nI 1)), (7, .null), (6, .null), (5, va_rf r1685), (4, .int (nI 1)), (3, .int (nI 4)), (0, .ref x), (1, .ref y), (2, .int (nI 0))]) hx hb d_p1m14_128 hl (by decide) rfl (fun ls hl => ?_)
              refine pd_oload hx hb d_p1m14_130 (lv_at hl 4 rfl) ?_
              rcases pd_om e1697 with ⟨q2156, q2159⟩ | ⟨i2158, q2156, q2159⟩
              · -- none
                refine pd_top (v' := .null) (by rw [q2159]; rfl) ?_
                rw [q2159] at hl
                have hl : lv_has ls 11 [(9, .int (nI 0)), (8, .int (nI 1)), (7, .null), (6, .null), (5, .null), (4, .int (nI 1)), (3, .int (nI 4)), (0, .ref x), (1, .ref y), (2, .int (nI 0))] := hl
                refine lv_ifnullN (tgt := 145) hx hb d_p1m14_132 (by decide) ?_
                refine lv_bipush (v := -2) hx hb d_p1m14_145 (by decide) ?_
                have hup : gr_up n R cs false = none := (if_pos ⟨rfl, by omega⟩).trans q2156
                have hfi : gr_find R n (gr_w cs 4) = none := q1773
                have hse : gr_find R n (gr_w cs 5) = none := q2150
                have hhd : gr_hd n R cs false 4 (none) (none) (none) = .inl (-2) := rfl
                have hg : gr_dc n R cs false (if false = true then 3 else 4) = ((-2), n, R) := by show gr_dc n R cs false 4 = _; unfold gr_dc; rw [hup, hfi, hse, hhd]
                exact pd_iret (v := (-2)) X w ⟨by rw [hg], pd_kx.mono (us := [6, 7, 8, 9, 10]) (pd_kx.tr (pd_kx.tr (k1660) (k1701)) (k1737)) (by simp), A, (by rw [hg]; exact ⟨lb, cl, me, ru, bk, f1748, hz_x, f1757, f1758, f1759, f1760, f1761, ht60⟩)⟩ (by decide) (by decide) d_p1m14_147
              · -- some
                refine pd_top (v' := .ref (A i2158)) (by rw [q2159]; rfl) ?_
                rw [q2159] at hl
                have hl : lv_has ls 11 [(9, .int (nI 0)), (8, .int (nI 1)), (7, .null), (6, .null), (5, .ref (A i2158)), (4, .int (nI 1)), (3, .int (nI 4)), (0, .ref x), (1, .ref y), (2, .int (nI 0))] := hl
                have i2158lt := gr_fi_lt q2156
                refine lv_ifnull hx hb d_p1m14_132 ?_
                refine lv_iload hx hb d_p1m14_135 (lv_at hl 1 rfl) ?_
                refine pd_zne (tgt := 145) hx hb d_p1m14_137 (by decide) (by decide) (fun _ => ?_) (fun q => absurd q (by decide))
                refine lv_bipush (v := -2) hx hb d_p1m14_145 (by decide) ?_
                have hup : gr_up n R cs false = some i2158 := (if_pos ⟨rfl, by omega⟩).trans q2156
                have hfi : gr_find R n (gr_w cs 4) = none := q1773
                have hse : gr_find R n (gr_w cs 5) = none := q2150
                have hhd : gr_hd n R cs false 4 (some i2158) (none) (none) = .inl (-2) := by rw [gr_hd_s, if_pos (by simp; omega)]
                have hg : gr_dc n R cs false (if false = true then 3 else 4) = ((-2), n, R) := by show gr_dc n R cs false 4 = _; unfold gr_dc; rw [hup, hfi, hse, hhd]
                exact pd_iret (v := (-2)) X w ⟨by rw [hg], pd_kx.mono (us := [6, 7, 8, 9, 10]) (pd_kx.tr (pd_kx.tr (k1660) (k1701)) (k1737)) (by simp), A, (by rw [hg]; exact ⟨lb, cl, me, ru, bk, f1748, hz_x, f1757, f1758, f1759, f1760, f1761, ht60⟩)⟩ (by decide) (by decide) d_p1m14_147
            · -- not taken: 123
              refine lv_iconst (v := nI 1) hx hb d_p1m14_123 (by decide) ?_
              refine lv_goto (tgt := 128) hx hb d_p1m14_124 (by decide) ?_
              refine lv_istore (lv' := [(9, .int (nI 1)), (8, .int (nI 1)), (7, .null), (6, .null), (5, va_rf r1685), (4, .int (nI 1)), (3, .int (nI 4)), (0, .ref x), (1, .ref y), (2, .int (nI 0))]) hx hb d_p1m14_128 hl (by decide) rfl (fun ls hl => ?_)
              refine pd_oload hx hb d_p1m14_130 (lv_at hl 4 rfl) ?_
              rcases pd_om e1697 with ⟨q2163, q2166⟩ | ⟨i2165, q2163, q2166⟩
              · -- none
                refine pd_top (v' := .null) (by rw [q2166]; rfl) ?_
                rw [q2166] at hl
                have hl : lv_has ls 11 [(9, .int (nI 1)), (8, .int (nI 1)), (7, .null), (6, .null), (5, .null), (4, .int (nI 1)), (3, .int (nI 4)), (0, .ref x), (1, .ref y), (2, .int (nI 0))] := hl
                refine lv_ifnullN (tgt := 145) hx hb d_p1m14_132 (by decide) ?_
                refine lv_bipush (v := -2) hx hb d_p1m14_145 (by decide) ?_
                have hup : gr_up n R cs false = none := (if_pos ⟨rfl, by omega⟩).trans q2163
                have hfi : gr_find R n (gr_w cs 4) = none := q1773
                have hse : gr_find R n (gr_w cs 5) = none := q2150
                have hhd : gr_hd n R cs false 4 (none) (none) (none) = .inl (-2) := rfl
                have hg : gr_dc n R cs false (if false = true then 3 else 4) = ((-2), n, R) := by show gr_dc n R cs false 4 = _; unfold gr_dc; rw [hup, hfi, hse, hhd]
                exact pd_iret (v := (-2)) X w ⟨by rw [hg], pd_kx.mono (us := [6, 7, 8, 9, 10]) (pd_kx.tr (pd_kx.tr (k1660) (k1701)) (k1737)) (by simp), A, (by rw [hg]; exact ⟨lb, cl, me, ru, bk, f1748, hz_x, f1757, f1758, f1759, f1760, f1761, ht60⟩)⟩ (by decide) (by decide) d_p1m14_147
              · -- some
                refine pd_top (v' := .ref (A i2165)) (by rw [q2166]; rfl) ?_
                rw [q2166] at hl
                have hl : lv_has ls 11 [(9, .int (nI 1)), (8, .int (nI 1)), (7, .null), (6, .null), (5, .ref (A i2165)), (4, .int (nI 1)), (3, .int (nI 4)), (0, .ref x), (1, .ref y), (2, .int (nI 0))] := hl
                have i2165lt := gr_fi_lt q2163
                refine lv_ifnull hx hb d_p1m14_132 ?_
                refine lv_iload hx hb d_p1m14_135 (lv_at hl 1 rfl) ?_
                refine pd_zne (tgt := 145) hx hb d_p1m14_137 (by decide) (by decide) (fun _ => ?_) (fun q => absurd q (by decide))
                refine lv_bipush (v := -2) hx hb d_p1m14_145 (by decide) ?_
                have hup : gr_up n R cs false = some i2165 := (if_pos ⟨rfl, by omega⟩).trans q2163
                have hfi : gr_find R n (gr_w cs 4) = none := q1773
                have hse : gr_find R n (gr_w cs 5) = none := q2150
                have hhd : gr_hd n R cs false 4 (some i2165) (none) (none) = .inl (-2) := by rw [gr_hd_s, if_pos (by simp; omega)]
                have hg : gr_dc n R cs false (if false = true then 3 else 4) = ((-2), n, R) := by show gr_dc n R cs false 4 = _; unfold gr_dc; rw [hup, hfi, hse, hhd]
                exact pd_iret (v := (-2)) X w ⟨by rw [hg], pd_kx.mono (us := [6, 7, 8, 9, 10]) (pd_kx.tr (pd_kx.tr (k1660) (k1701)) (k1737)) (by simp), A, (by rw [hg]; exact ⟨lb, cl, me, ru, bk, f1748, hz_x, f1757, f1758, f1759, f1760, f1761, ht60⟩)⟩ (by decide) (by decide) d_p1m14_147
          · -- some
            refine pd_top (v' := .ref (A i2152)) (by rw [q2153]; rfl) ?_
            rw [q2153] at hl
            have hl : lv_has ls 11 [(8, .int (nI 1)), (7, .ref (A i2152)), (6, .null), (5, va_rf r1685), (4, .int (nI 1)), (3, .int (nI 4)), (0, .ref x), (1, .ref y), (2, .int (nI 0))] := hl
            have i2152lt := gr_fi_lt q2150
            refine lv_ifnonnull (tgt := 127) hx hb d_p1m14_110 (by decide) ?_
            refine lv_iconst (v := nI 0) hx hb d_p1m14_127 (by decide) ?_
            refine lv_istore (lv' := [(9, .int (nI 0)), (8, .int (nI 1)), (7, .ref (A i2152)), (6, .null), (5, va_rf r1685), (4, .int (nI 1)), (3, .int (nI 4)), (0, .ref x), (1, .ref y), (2, .int (nI 0))]) hx hb d_p1m14_128 hl (by decide) rfl (fun ls hl => ?_)
            refine pd_oload hx hb d_p1m14_130 (lv_at hl 4 rfl) ?_
            rcases pd_om e1697 with ⟨q2171, q2174⟩ | ⟨i2173, q2171, q2174⟩
            · -- none
              refine pd_top (v' := .null) (by rw [q2174]; rfl) ?_
              rw [q2174] at hl
              have hl : lv_has ls 11 [(9, .int (nI 0)), (8, .int (nI 1)), (7, .ref (A i2152)), (6, .null), (5, .null), (4, .int (nI 1)), (3, .int (nI 4)), (0, .ref x), (1, .ref y), (2, .int (nI 0))] := hl
              refine lv_ifnullN (tgt := 145) hx hb d_p1m14_132 (by decide) ?_
              refine lv_bipush (v := -2) hx hb d_p1m14_145 (by decide) ?_
              have hup : gr_up n R cs false = none := (if_pos ⟨rfl, by omega⟩).trans q2171
              have hfi : gr_find R n (gr_w cs 4) = none := q1773
              have hse : gr_find R n (gr_w cs 5) = some i2152 := q2150
              have hhd : gr_hd n R cs false 4 (none) (none) (some i2152) = .inl (-2) := rfl
              have hg : gr_dc n R cs false (if false = true then 3 else 4) = ((-2), n, R) := by show gr_dc n R cs false 4 = _; unfold gr_dc; rw [hup, hfi, hse, hhd]
              exact pd_iret (v := (-2)) X w ⟨by rw [hg], pd_kx.mono (us := [6, 7, 8, 9, 10]) (pd_kx.tr (pd_kx.tr (k1660) (k1701)) (k1737)) (by simp), A, (by rw [hg]; exact ⟨lb, cl, me, ru, bk, f1748, hz_x, f1757, f1758, f1759, f1760, f1761, ht60⟩)⟩ (by decide) (by decide) d_p1m14_147
            · -- some
              refine pd_top (v' := .ref (A i2173)) (by rw [q2174]; rfl) ?_
              rw [q2174] at hl
              have hl : lv_has ls 11 [(9, .int (nI 0)), (8, .int (nI 1)), (7, .ref (A i2152)), (6, .null), (5, .ref (A i2173)), (4, .int (nI 1)), (3, .int (nI 4)), (0, .ref x), (1, .ref y), (2, .int (nI 0))] := hl
              have i2173lt := gr_fi_lt q2171
              refine lv_ifnull hx hb d_p1m14_132 ?_
              refine lv_iload hx hb d_p1m14_135 (lv_at hl 1 rfl) ?_
              refine pd_zne (tgt := 145) hx hb d_p1m14_137 (by decide) (by decide) (fun _ => ?_) (fun q => absurd q (by decide))
              refine lv_bipush (v := -2) hx hb d_p1m14_145 (by decide) ?_
              have hup : gr_up n R cs false = some i2173 := (if_pos ⟨rfl, by omega⟩).trans q2171
              have hfi : gr_find R n (gr_w cs 4) = none := q1773
              have hse : gr_find R n (gr_w cs 5) = some i2152 := q2150
              have hhd : gr_hd n R cs false 4 (some i2173) (none) (some i2152) = .inl (-2) := by rw [gr_hd_s, if_pos (by simp; omega)]
              have hg : gr_dc n R cs false (if false = true then 3 else 4) = ((-2), n, R) := by show gr_dc n R cs false 4 = _; unfold gr_dc; rw [hup, hfi, hse, hhd]
              exact pd_iret (v := (-2)) X w ⟨by rw [hg], pd_kx.mono (us := [6, 7, 8, 9, 10]) (pd_kx.tr (pd_kx.tr (k1660) (k1701)) (k1737)) (by simp), A, (by rw [hg]; exact ⟨lb, cl, me, ru, bk, f1748, hz_x, f1757, f1758, f1759, f1760, f1761, ht60⟩)⟩ (by decide) (by decide) d_p1m14_147
      · -- some
        refine pd_top (v' := .ref (A i1775)) (by rw [q1776]; rfl) ?_
        rw [q1776] at hl
        have hl : lv_has ls 11 [(7, va_rf r1769), (6, .ref (A i1775)), (5, va_rf r1685), (4, .int (nI 1)), (3, .int (nI 4)), (0, .ref x), (1, .ref y), (2, .int (nI 0))] := hl
        have i1775lt := gr_fi_lt q1773
        refine lv_ifnonnull (tgt := 105) hx hb d_p1m14_90 (by decide) ?_
        refine lv_iconst (v := nI 0) hx hb d_p1m14_105 (by decide) ?_
        refine lv_istore (lv' := [(8, .int (nI 0)), (7, va_rf r1769), (6, .ref (A i1775)), (5, va_rf r1685), (4, .int (nI 1)), (3, .int (nI 4)), (0, .ref x), (1, .ref y), (2, .int (nI 0))]) hx hb d_p1m14_106 hl (by decide) (by simp [pd_cat]) (fun ls hl => ?_)
        refine pd_oload hx hb d_p1m14_108 (lv_at hl 1 rfl) ?_
        rcases pd_om e1772 with ⟨q2179, q2182⟩ | ⟨i2181, q2179, q2182⟩
        · -- none
          refine pd_top (v' := .null) (by rw [q2182]; rfl) ?_
          rw [q2182] at hl
          have hl : lv_has ls 11 [(8, .int (nI 0)), (7, .null), (6, .ref (A i1775)), (5, va_rf r1685), (4, .int (nI 1)), (3, .int (nI 4)), (0, .ref x), (1, .ref y), (2, .int (nI 0))] := hl
          refine lv_ifnonnullN hx hb d_p1m14_110 ?_
          refine lv_aload_n hx hb d_p1m14_113 rfl (lv_at hl 7 rfl) ?_
          refine pd_get X w f1749 rfl 1 (by decide) mT_544 rfl rfl d_p1m14_114 ?_
          refine lv_iload_n hx hb d_p1m14_117 rfl (lv_at hl 5 rfl) ?_
          refine lv_iconst (v := nI 1) hx hb d_p1m14_118 (by decide) ?_
          refine pd_iadd hx hb d_p1m14_119 ?_
          refine pd_jle (tgt := 127) hx hb d_p1m14_120 (by decide) (by omega) (by omega) (fun q2184 => ?_) (fun q2184 => ?_)
          · -- taken: 127
            refine lv_iconst (v := nI 0) hx hb d_p1m14_127 (by decide) ?_
            refine lv_istore (lv' := [(9, .int (nI 0)), (8, .int (nI 0)), (7, .null), (6, .ref (A i1775)), (5, va_rf r1685), (4, .int (nI 1)), (3, .int (nI 4)), (0, .ref x), (1, .ref y), (2, .int (nI 0))]) hx hb d_p1m14_128 hl (by decide) rfl (fun ls hl => ?_)
            refine pd_oload hx hb d_p1m14_130 (lv_at hl 4 rfl) ?_
            rcases pd_om e1697 with ⟨q2185, q2188⟩ | ⟨i2187, q2185, q2188⟩
            · -- none
              refine pd_top (v' := .null) (by rw [q2188]; rfl) ?_
              rw [q2188] at hl
              have hl : lv_has ls 11 [(9, .int (nI 0)), (8, .int (nI 0)), (7, .null), (6, .ref (A i1775)), (5, .null), (4, .int (nI 1)), (3, .int (nI 4)), (0, .ref x), (1, .ref y), (2, .int (nI 0))] := hl
              refine lv_ifnullN (tgt := 145) hx hb d_p1m14_132 (by decide) ?_
              refine lv_bipush (v := -2) hx hb d_p1m14_145 (by decide) ?_
              have hup : gr_up n R cs false = none := (if_pos ⟨rfl, by omega⟩).trans q2185
              have hfi : gr_find R n (gr_w cs 4) = some i1775 := q1773
              have hse : gr_find R n (gr_w cs 5) = none := q2179
              have hhd : gr_hd n R cs false 4 (none) (some i1775) (none) = .inl (-2) := rfl
              have hg : gr_dc n R cs false (if false = true then 3 else 4) = ((-2), n, R) := by show gr_dc n R cs false 4 = _; unfold gr_dc; rw [hup, hfi, hse, hhd]
              exact pd_iret (v := (-2)) X w ⟨by rw [hg], pd_kx.mono (us := [6, 7, 8, 9, 10]) (pd_kx.tr (pd_kx.tr (k1660) (k1701)) (k1737)) (by simp), A, (by rw [hg]; exact ⟨lb, cl, me, ru, bk, f1748, hz_x, f1757, f1758, f1759, f1760, f1761, ht60⟩)⟩ (by decide) (by decide) d_p1m14_147
            · -- some
              refine pd_top (v' := .ref (A i2187)) (by rw [q2188]; rfl) ?_
              rw [q2188] at hl
              have hl : lv_has ls 11 [(9, .int (nI 0)), (8, .int (nI 0)), (7, .null), (6, .ref (A i1775)), (5, .ref (A i2187)), (4, .int (nI 1)), (3, .int (nI 4)), (0, .ref x), (1, .ref y), (2, .int (nI 0))] := hl
              have i2187lt := gr_fi_lt q2185
              refine lv_ifnull hx hb d_p1m14_132 ?_
              refine lv_iload hx hb d_p1m14_135 (lv_at hl 1 rfl) ?_
              refine pd_zne (tgt := 145) hx hb d_p1m14_137 (by decide) (by decide) (fun q => absurd q (by decide)) (fun _ => ?_)
              refine lv_iload hx hb d_p1m14_140 (lv_at hl 0 rfl) ?_
              refine pd_zeq (tgt := 148) hx hb d_p1m14_142 (by decide) (by decide) (fun _ => ?_) (fun q => absurd q (by decide))
              refine lv_aload_n hx hb d_p1m14_148 rfl (lv_at hl 7 rfl) ?_
              refine pd_get X w f1748 rfl 1 (by decide) mT_368 rfl rfl d_p1m14_149 ?_
              refine lv_aload_n hx hb d_p1m14_152 rfl (lv_at hl 8 rfl) ?_
              refine lv_iconst (v := nI 1) hx hb d_p1m14_153 (by decide) ?_
              refine pd_cV (a := y) (As := [.int (nI 1)]) (rest := [.ref cl]) X w f1749 rfl (c_Line_word l G h1735 (by assumption) (by omega)) ok_Line_word ⟨mT_574, mT_575⟩ mT_573 ⟨by decide, by decide⟩ rfl hl.1 rfl (Nat.le_of_ble_eq_true rfl) d_p1m14_154 ⟨by decide, by decide⟩ (fun r2193 h2194 H locs hp2195 w => ?_)
              refine W.widen (k := 8) (n := 256) (by decide) (by decide) ?_
              obtain ⟨k2196, ds2197, e2198, f2199⟩ := hp2195
              have f2207 := k2196 _ _ f1748 List.not_mem_nil
              have f2208 := k2196 _ _ f1749 List.not_mem_nil
              have f2209 := k2196 _ _ f1750 List.not_mem_nil
              have f2210 := k2196 _ _ f1751 List.not_mem_nil
              have f2211 := k2196 _ _ f1752 List.not_mem_nil
              have f2212 := k2196 _ _ f1753 List.not_mem_nil
              have f2213 := k2196 _ _ f1743 List.not_mem_nil
              have f2214 := k2196 _ _ f1754 List.not_mem_nil
              have f2215 := k2196 _ _ f1755 List.not_mem_nil
              have f2216 := k2196 _ _ f1756 List.not_mem_nil
              have f2217 := k2196 _ _ f1744 List.not_mem_nil
              have f2218 := f1757.kx k2196 List.not_mem_nil List.not_mem_nil
              have f2219 := f1758.kx k2196 List.not_mem_nil List.not_mem_nil List.not_mem_nil
              have f2220 := f1759.kx k2196 List.not_mem_nil List.not_mem_nil List.not_mem_nil
              have f2221 := f1760.kx k2196 List.not_mem_nil List.not_mem_nil List.not_mem_nil
              have f2222 := f1761.kx k2196 List.not_mem_nil List.not_mem_nil List.not_mem_nil List.not_mem_nil List.not_mem_nil
              have f2223 := f1762.kx k2196 List.not_mem_nil
              have f2224 := f1763.kx k2196 List.not_mem_nil
              have f2225 := f1764.kx k2196 List.not_mem_nil
              have f2226 := f1765.kx k2196 List.not_mem_nil
              have f2227 := f1766.kx k2196 List.not_mem_nil
              have f2228 := f1767.kx k2196 List.not_mem_nil
              have f2229 := f1768.kx k2196 List.not_mem_nil
              have f2230 := f1740.kx k2196 List.not_mem_nil
              obtain ⟨v2200, g2201, f2202, f2203, gf2204, gc2205, gl2206⟩ := id f2199
              subst e2198
              refine pd_cV (a := cl) (As := [.ref r2193]) (rest := []) X w f2211 rfl (c_Classes_find l G h2194 (by assumption) (by assumption)) ok_Classes_find ⟨mT_773, mT_774⟩ mT_772 ⟨by decide, by decide⟩ rfl hl.1 rfl (Nat.le_of_ble_eq_true rfl) d_p1m14_157 ⟨by decide, by decide⟩ (fun r2231 h2232 H locs hp2233 w => ?_)
              refine W.widen (k := 8) (n := 256) (by decide) (by decide) ?_
              obtain ⟨e2234, rfl⟩ := hp2233
              rcases pd_om e2234 with ⟨q2235, q2238⟩ | ⟨i2237, q2235, q2238⟩
              · -- none
                refine pd_top (v' := .null) (by rw [q2238]; rfl) ?_
                have hl : lv_has ls 11 [(9, .int (nI 0)), (8, .int (nI 0)), (7, .null), (6, .ref (A i1775)), (5, .ref (A i2187)), (4, .int (nI 1)), (3, .int (nI 4)), (0, .ref x), (1, .ref y), (2, .int (nI 0))] := hl
                refine lv_ifnullN (tgt := 166) hx hb d_p1m14_160 (by decide) ?_
                refine lv_aload hx hb d_p1m14_166 (lv_at hl 3 rfl) ?_
                refine lv_ifnull hx hb d_p1m14_168 ?_
                refine lv_aload hx hb d_p1m14_171 (lv_at hl 3 rfl) ?_
                refine lv_aloadN hx hb d_p1m14_173 (lv_at hl 2 rfl) ?_
                refine lv_acmp_ne (rx := (some (A i1775))) (ry := none) (tgt := 182) hx hb d_p1m14_175 (by decide) (fun _ => ?_) (fun q => absurd q (by simp))
                refine lv_iconst (v := nI 0) hx hb d_p1m14_182 (by decide) ?_
                refine lv_istore (lv' := [(10, .int (nI 0)), (9, .int (nI 0)), (8, .int (nI 0)), (7, .null), (6, .ref (A i1775)), (5, .ref (A i2187)), (4, .int (nI 1)), (3, .int (nI 4)), (0, .ref x), (1, .ref y), (2, .int (nI 0))]) hx hb d_p1m14_183 hl (by decide) rfl (fun ls hl => ?_)
                refine lv_aload hx hb d_p1m14_185 (lv_at hl 5 rfl) ?_
                obtain ⟨nm2242, fx2243, f2244, f2245, f2246⟩ := f2223.1 i2187 (by omega)
                obtain ⟨v2247, g2248, f2249, f2250, gf2251, gc2252, gl2253⟩ := id f2245
                obtain ⟨v2254, cap2255, g2256, f2257, z2258, z2259, z2260, z2261, z2262⟩ := id f2246
                refine pd_get X w f2244 rfl 2 (by decide) mT_260 rfl rfl d_p1m14_187 ?_
                refine pd_bne (tgt := 214) hx hb d_p1m14_190 (by decide) (fun q2263 => ?_) (fun q2263 => ?_)
                · -- taken: 214
                  refine lv_bipush (v := -4) hx hb d_p1m14_214 (by decide) ?_
                  have hup : gr_up n R cs false = some i2187 := (if_pos ⟨rfl, by omega⟩).trans q2185
                  have hfi : gr_find R n (gr_w cs 4) = some i1775 := q1773
                  have hse : gr_find R n (gr_w cs 5) = none := q2179
                  have hhd : gr_hd n R cs false 4 (some i2187) (some i1775) (none) = .inl (-4) := by rw [gr_hd_s, if_neg (by simp; omega), if_neg (by rw [q2235]; simp), if_pos (Or.inl q2263)]
                  have hg : gr_dc n R cs false (if false = true then 3 else 4) = ((-4), n, R) := by show gr_dc n R cs false 4 = _; unfold gr_dc; rw [hup, hfi, hse, hhd]
                  exact pd_iret (v := (-4)) X w ⟨by rw [hg], pd_kx.mono (us := [6, 7, 8, 9, 10]) (pd_kx.tr (pd_kx.tr (pd_kx.tr (k1660) (k1701)) (k1737)) (k2196)) (by simp), A, (by rw [hg]; exact ⟨lb, cl, me, ru, bk, f2207, hz_x, f2218, f2219, f2220, f2221, f2222, ht60⟩)⟩ (by decide) (by decide) d_p1m14_216
                · -- not taken: 193
                  refine lv_aload hx hb d_p1m14_193 (lv_at hl 4 rfl) ?_
                  refine pd_cS (As := [.ref (A i1775)]) (rest := []) X w (c_PolicyDesk_isPlainClass l G h2194 (A := A) (n := n) (R := R) (o := some i1775) (by assumption) (fun t ht => by cases ht; omega)) ok_PolicyDesk_isPlainClass mT_778 mT_777 ⟨by decide, by decide⟩ rfl hl.1 rfl (Nat.le_of_ble_eq_true rfl) d_p1m14_195 ⟨by decide, by decide⟩ (fun r2264 h2265 H locs hp2266 w => ?_)
                  refine W.widen (k := 8) (n := 256) (by decide) (by decide) ?_
                  obtain ⟨e2267, rfl⟩ := hp2266
                  refine pd_bne (tgt := 214) hx hb d_p1m14_198 (by decide) (fun q2268 => ?_) (fun q2268 => ?_)
                  · -- taken: 214
                    refine lv_bipush (v := -4) hx hb d_p1m14_214 (by decide) ?_
                    have hup : gr_up n R cs false = some i2187 := (if_pos ⟨rfl, by omega⟩).trans q2185
                    have hfi : gr_find R n (gr_w cs 4) = some i1775 := q1773
                    have hse : gr_find R n (gr_w cs 5) = none := q2179
                    have hhd : gr_hd n R cs false 4 (some i2187) (some i1775) (none) = .inl (-4) := by rw [gr_hd_s, if_neg (by simp; omega), if_neg (by rw [q2235]; simp), if_pos (Or.inr (Or.inl (e2267.symm.trans q2268)))]
                    have hg : gr_dc n R cs false (if false = true then 3 else 4) = ((-4), n, R) := by show gr_dc n R cs false 4 = _; unfold gr_dc; rw [hup, hfi, hse, hhd]
                    exact pd_iret (v := (-4)) X w ⟨by rw [hg], pd_kx.mono (us := [6, 7, 8, 9, 10]) (pd_kx.tr (pd_kx.tr (pd_kx.tr (k1660) (k1701)) (k1737)) (k2196)) (by simp), A, (by rw [hg]; exact ⟨lb, cl, me, ru, bk, f2207, hz_x, f2218, f2219, f2220, f2221, f2222, ht60⟩)⟩ (by decide) (by decide) d_p1m14_216
                  · -- not taken: 201
                    refine lv_aloadN hx hb d_p1m14_201 (lv_at hl 3 rfl) ?_
                    refine pd_cS (As := [.null]) (rest := []) X w (c_PolicyDesk_isPlainClass l G h2194 (A := A) (n := n) (R := R) (o := none) (by assumption) (fun t ht => by cases ht)) ok_PolicyDesk_isPlainClass mT_778 mT_777 ⟨by decide, by decide⟩ rfl hl.1 rfl (Nat.le_of_ble_eq_true rfl) d_p1m14_203 ⟨by decide, by decide⟩ (fun r2269 h2270 H locs hp2271 w => ?_)
                    refine W.widen (k := 8) (n := 256) (by decide) (by decide) ?_
                    obtain ⟨e2272, rfl⟩ := hp2271
                    refine pd_bne (tgt := 214) hx hb d_p1m14_206 (by decide) (fun q2273 => ?_) (fun q2273 => ?_)
                    · -- taken: 214
                      refine lv_bipush (v := -4) hx hb d_p1m14_214 (by decide) ?_
                      have hup : gr_up n R cs false = some i2187 := (if_pos ⟨rfl, by omega⟩).trans q2185
                      have hfi : gr_find R n (gr_w cs 4) = some i1775 := q1773
                      have hse : gr_find R n (gr_w cs 5) = none := q2179
                      have hhd : gr_hd n R cs false 4 (some i2187) (some i1775) (none) = .inl (-4) := by rw [gr_hd_s, if_neg (by simp; omega), if_neg (by rw [q2235]; simp), if_pos (Or.inr (Or.inr (Or.inl (e2272.symm.trans q2273))))]
                      have hg : gr_dc n R cs false (if false = true then 3 else 4) = ((-4), n, R) := by show gr_dc n R cs false 4 = _; unfold gr_dc; rw [hup, hfi, hse, hhd]
                      exact pd_iret (v := (-4)) X w ⟨by rw [hg], pd_kx.mono (us := [6, 7, 8, 9, 10]) (pd_kx.tr (pd_kx.tr (pd_kx.tr (k1660) (k1701)) (k1737)) (k2196)) (by simp), A, (by rw [hg]; exact ⟨lb, cl, me, ru, bk, f2207, hz_x, f2218, f2219, f2220, f2221, f2222, ht60⟩)⟩ (by decide) (by decide) d_p1m14_216
                    · -- not taken: 209
                      refine lv_iload hx hb d_p1m14_209 (lv_at hl 0 rfl) ?_
                      refine pd_zeq (tgt := 217) hx hb d_p1m14_211 (by decide) (by decide) (fun _ => ?_) (fun q => absurd q (by decide))
                      refine lv_aload_n hx hb d_p1m14_217 rfl (lv_at hl 8 rfl) ?_
                      refine pd_get X w f2207 rfl 1 (by decide) mT_368 rfl rfl d_p1m14_218 ?_
                      refine lv_aload_n hx hb d_p1m14_221 rfl (lv_at hl 9 rfl) ?_
                      refine lv_iconst (v := nI 1) hx hb d_p1m14_222 (by decide) ?_
                      refine pd_cV (a := y) (As := [.int (nI 1)]) (rest := [.ref cl]) X w f2208 rfl (c_Line_word l G h2194 (by assumption) (by omega)) ok_Line_word ⟨mT_574, mT_575⟩ mT_573 ⟨by decide, by decide⟩ rfl hl.1 rfl (Nat.le_of_ble_eq_true rfl) d_p1m14_223 ⟨by decide, by decide⟩ (fun r2275 h2276 H locs hp2277 w => ?_)
                      refine W.widen (k := 10) (n := 320) (by decide) (by decide) ?_
                      obtain ⟨k2278, ds2279, e2280, f2281⟩ := hp2277
                      have f2289 := k2278 _ _ f2207 List.not_mem_nil
                      have f2290 := k2278 _ _ f2208 List.not_mem_nil
                      have f2291 := k2278 _ _ f2209 List.not_mem_nil
                      have f2292 := k2278 _ _ f2210 List.not_mem_nil
                      have f2293 := k2278 _ _ f2211 List.not_mem_nil
                      have f2294 := k2278 _ _ f2212 List.not_mem_nil
                      have f2295 := k2278 _ _ f2213 List.not_mem_nil
                      have f2296 := k2278 _ _ f2202 List.not_mem_nil
                      have f2297 := k2278 _ _ f2244 List.not_mem_nil
                      have f2298 := k2278 _ _ f2249 List.not_mem_nil
                      have f2299 := k2278 _ _ f2257 List.not_mem_nil
                      have f2300 := k2278 _ _ f2214 List.not_mem_nil
                      have f2301 := k2278 _ _ f2215 List.not_mem_nil
                      have f2302 := k2278 _ _ f2216 List.not_mem_nil
                      have f2303 := k2278 _ _ f2217 List.not_mem_nil
                      have f2304 := k2278 _ _ f2203 List.not_mem_nil
                      have f2305 := k2278 _ _ f2250 List.not_mem_nil
                      have f2306 := f2218.kx k2278 List.not_mem_nil List.not_mem_nil
                      have f2307 := f2219.kx k2278 List.not_mem_nil List.not_mem_nil List.not_mem_nil
                      have f2308 := f2220.kx k2278 List.not_mem_nil List.not_mem_nil List.not_mem_nil
                      have f2309 := f2221.kx k2278 List.not_mem_nil List.not_mem_nil List.not_mem_nil
                      have f2310 := f2222.kx k2278 List.not_mem_nil List.not_mem_nil List.not_mem_nil List.not_mem_nil List.not_mem_nil
                      have f2311 := f2223.kx k2278 List.not_mem_nil
                      have f2312 := f2224.kx k2278 List.not_mem_nil
                      have f2313 := f2225.kx k2278 List.not_mem_nil
                      have f2314 := f2226.kx k2278 List.not_mem_nil
                      have f2315 := f2227.kx k2278 List.not_mem_nil
                      have f2316 := f2228.kx k2278 List.not_mem_nil
                      have f2317 := f2229.kx k2278 List.not_mem_nil
                      have f2318 := f2230.kx k2278 List.not_mem_nil
                      have f2319 := f2199.kx k2278 List.not_mem_nil
                      have f2320 := f2245.kx k2278 List.not_mem_nil
                      have f2321 := f2246.kx k2278 List.not_mem_nil List.not_mem_nil List.not_mem_nil
                      obtain ⟨v2282, g2283, f2284, f2285, gf2286, gc2287, gl2288⟩ := id f2281
                      subst e2280
                      refine lv_iload_n hx hb d_p1m14_226 rfl (lv_at hl 10 rfl) ?_
                      refine lv_aload hx hb d_p1m14_227 (lv_at hl 5 rfl) ?_
                      refine lv_aload hx hb d_p1m14_229 (lv_at hl 4 rfl) ?_
                      refine lv_aloadN hx hb d_p1m14_231 (lv_at hl 3 rfl) ?_
                      refine pd_cV (a := cl) (As := [.ref r2275, .int (nI 0), .ref (A i2187), .ref (A i1775), .null]) (rest := []) X w f2293 rfl (c_Classes_add l G h2276 (A := A) (n := n) (R := R) (bi := false) (ab := some i2187) (fi := some i1775) (se := none) (by assumption) (by assumption) (fun t ht => by cases ht; omega) (fun t ht => by cases ht; omega) (fun t ht => by cases ht)) ok_Classes_add ⟨mT_781, mT_782⟩ mT_780 ⟨by decide, by decide⟩ rfl hl.1 rfl (Nat.le_of_ble_eq_true rfl) d_p1m14_233 ⟨by decide, by decide⟩ (fun r2322 h2323 H locs hp2324 w => ?_)
                      refine W.widen (k := 40) (n := 752) (by decide) (by decide) ?_
                      obtain ⟨k2325, e2326, A2327, ag2328, f2329⟩ := hp2324
                      have f2330 := k2325 _ _ f2289 (show (5 : Nat) ∉ [6, 7, 8, 9, 10] by decide)
                      have f2331 := k2325 _ _ f2290 (show (0 : Nat) ∉ [6, 7, 8, 9, 10] by decide)
                      have f2332 := k2325 _ _ f2291 (show (0 : Nat) ∉ [6, 7, 8, 9, 10] by decide)
                      have f2333 := k2325 _ _ f2292 (show (0 : Nat) ∉ [6, 7, 8, 9, 10] by decide)
                      have f2334 := k2325 _ _ f2294 (show (0 : Nat) ∉ [6, 7, 8, 9, 10] by decide)
                      have f2335 := k2325 _ _ f2295 (show (0 : Nat) ∉ [6, 7, 8, 9, 10] by decide)
                      have f2336 := k2325 _ _ f2296 (show (0 : Nat) ∉ [6, 7, 8, 9, 10] by decide)
                      have f2337 := k2325 _ _ f2297 (show (0 : Nat) ∉ [6, 7, 8, 9, 10] by decide)
                      have f2338 := k2325 _ _ f2298 (show (0 : Nat) ∉ [6, 7, 8, 9, 10] by decide)
                      have f2339 := k2325 _ _ f2299 (show (0 : Nat) ∉ [6, 7, 8, 9, 10] by decide)
                      have f2340 := k2325 _ _ f2284 (show (0 : Nat) ∉ [6, 7, 8, 9, 10] by decide)
                      have f2341 := k2325 _ _ f2300 (show (0 : Nat) ∉ [6, 7, 8, 9, 10] by decide)
                      have f2342 := k2325 _ _ f2301 (show (0 : Nat) ∉ [6, 7, 8, 9, 10] by decide)
                      have f2343 := k2325 _ _ f2302 (show (0 : Nat) ∉ [6, 7, 8, 9, 10] by decide)
                      have f2344 := k2325 _ _ f2303 (show (0 : Nat) ∉ [6, 7, 8, 9, 10] by decide)
                      have f2345 := k2325 _ _ f2304 (show (0 : Nat) ∉ [6, 7, 8, 9, 10] by decide)
                      have f2346 := k2325 _ _ f2305 (show (0 : Nat) ∉ [6, 7, 8, 9, 10] by decide)
                      have f2347 := k2325 _ _ f2285 (show (0 : Nat) ∉ [6, 7, 8, 9, 10] by decide)
                      have f2348 := f2306.kx k2325 (show (1 : Nat) ∉ [6, 7, 8, 9, 10] by decide) (show (2 : Nat) ∉ [6, 7, 8, 9, 10] by decide)
                      have f2349 := f2308.kx k2325 (show (11 : Nat) ∉ [6, 7, 8, 9, 10] by decide) (show (12 : Nat) ∉ [6, 7, 8, 9, 10] by decide) (show (0 : Nat) ∉ [6, 7, 8, 9, 10] by decide)
                      have f2350 := f2309.kx k2325 (show (13 : Nat) ∉ [6, 7, 8, 9, 10] by decide) (show (14 : Nat) ∉ [6, 7, 8, 9, 10] by decide) (show (0 : Nat) ∉ [6, 7, 8, 9, 10] by decide)
                      have f2351 := f2310.kx k2325 (show (15 : Nat) ∉ [6, 7, 8, 9, 10] by decide) (show (16 : Nat) ∉ [6, 7, 8, 9, 10] by decide) (show (17 : Nat) ∉ [6, 7, 8, 9, 10] by decide) (show (3 : Nat) ∉ [6, 7, 8, 9, 10] by decide) (show (4 : Nat) ∉ [6, 7, 8, 9, 10] by decide)
                      have f2352 := f2312.kx k2325 (show (0 : Nat) ∉ [6, 7, 8, 9, 10] by decide)
                      have f2353 := f2313.kx k2325 (show (0 : Nat) ∉ [6, 7, 8, 9, 10] by decide)
                      have f2354 := f2314.kx k2325 (show (0 : Nat) ∉ [6, 7, 8, 9, 10] by decide)
                      have f2355 := f2315.kx k2325 (show (0 : Nat) ∉ [6, 7, 8, 9, 10] by decide)
                      have f2356 := f2316.kx k2325 (show (0 : Nat) ∉ [6, 7, 8, 9, 10] by decide)
                      have f2357 := f2317.kx k2325 (show (0 : Nat) ∉ [6, 7, 8, 9, 10] by decide)
                      have f2358 := f2318.kx k2325 (show (0 : Nat) ∉ [6, 7, 8, 9, 10] by decide)
                      have f2359 := f2319.kx k2325 (show (0 : Nat) ∉ [6, 7, 8, 9, 10] by decide)
                      have f2360 := f2320.kx k2325 (show (0 : Nat) ∉ [6, 7, 8, 9, 10] by decide)
                      have f2361 := f2321.kx k2325 (show (0 : Nat) ∉ [6, 7, 8, 9, 10] by decide) (show (0 : Nat) ∉ [6, 7, 8, 9, 10] by decide) (show (0 : Nat) ∉ [6, 7, 8, 9, 10] by decide)
                      have f2362 := f2281.kx k2325 (show (0 : Nat) ∉ [6, 7, 8, 9, 10] by decide)
                      have hup : gr_up n R cs false = some i2187 := (if_pos ⟨rfl, by omega⟩).trans q2185
                      have hfi : gr_find R n (gr_w cs 4) = some i1775 := q1773
                      have hse : gr_find R n (gr_w cs 5) = none := q2179
                      have hhd : gr_hd n R cs false 4 (some i2187) (some i1775) (none) = .inr i2187 := by rw [gr_hd_s, if_neg (by simp; omega), if_neg (by rw [q2235]; simp), if_neg (fun h9 => by rcases h9 with h9 | h9 | h9 | h9; rw [q2263] at h9; cases h9; rw [← e2267, q2268] at h9; cases h9; rw [← e2272, q2273] at h9; cases h9; exact absurd h9.2 (by simp))]
                      have hg : gr_dc n R cs false (if false = true then 3 else 4) = gr_cadd n R (gr_row R n (gr_w cs 1) false (some i2187) (some i1775) (none)) := by show gr_dc n R cs false 4 = _; unfold gr_dc; rw [hup, hfi, hse, hhd]
                      exact pd_iret (v := r2322) X w ⟨by rw [hg]; exact e2326, pd_kx.tr (pd_kx.mono (us := [6, 7, 8, 9, 10]) (pd_kx.tr (pd_kx.tr (pd_kx.tr (pd_kx.tr (k1660) (k1701)) (k1737)) (k2196)) (k2278)) (by simp)) (k2325), A2327, (by rw [hg]; exact ⟨lb, cl, me, ru, bk, f2330, hz_x, f2348, f2329, (pd_Mems.ag f2349 ag2328 gr_cadd_le), f2350, f2351, ht60⟩)⟩ (by decide) (by decide) d_p1m14_236
              · -- some
                refine pd_top (v' := .ref (A i2237)) (by rw [q2238]; rfl) ?_
                have hl : lv_has ls 11 [(9, .int (nI 0)), (8, .int (nI 0)), (7, .null), (6, .ref (A i1775)), (5, .ref (A i2187)), (4, .int (nI 1)), (3, .int (nI 4)), (0, .ref x), (1, .ref y), (2, .int (nI 0))] := hl
                have i2237lt := gr_fi_lt q2235
                refine lv_ifnull hx hb d_p1m14_160 ?_
                refine lv_bipush (v := -3) hx hb d_p1m14_163 (by decide) ?_
                have hup : gr_up n R cs false = some i2187 := (if_pos ⟨rfl, by omega⟩).trans q2185
                have hfi : gr_find R n (gr_w cs 4) = some i1775 := q1773
                have hse : gr_find R n (gr_w cs 5) = none := q2179
                have hhd : gr_hd n R cs false 4 (some i2187) (some i1775) (none) = .inl (-3) := by rw [gr_hd_s, if_neg (by simp; omega), if_pos (by rw [q2235]; simp)]
                have hg : gr_dc n R cs false (if false = true then 3 else 4) = ((-3), n, R) := by show gr_dc n R cs false 4 = _; unfold gr_dc; rw [hup, hfi, hse, hhd]
                exact pd_iret (v := (-3)) X w ⟨by rw [hg], pd_kx.mono (us := [6, 7, 8, 9, 10]) (pd_kx.tr (pd_kx.tr (pd_kx.tr (k1660) (k1701)) (k1737)) (k2196)) (by simp), A, (by rw [hg]; exact ⟨lb, cl, me, ru, bk, f2207, hz_x, f2218, f2219, f2220, f2221, f2222, ht60⟩)⟩ (by decide) (by decide) d_p1m14_165
          · -- not taken: 123
            refine lv_iconst (v := nI 1) hx hb d_p1m14_123 (by decide) ?_
            refine lv_goto (tgt := 128) hx hb d_p1m14_124 (by decide) ?_
            refine lv_istore (lv' := [(9, .int (nI 1)), (8, .int (nI 0)), (7, .null), (6, .ref (A i1775)), (5, va_rf r1685), (4, .int (nI 1)), (3, .int (nI 4)), (0, .ref x), (1, .ref y), (2, .int (nI 0))]) hx hb d_p1m14_128 hl (by decide) rfl (fun ls hl => ?_)
            refine pd_oload hx hb d_p1m14_130 (lv_at hl 4 rfl) ?_
            rcases pd_om e1697 with ⟨q2364, q2367⟩ | ⟨i2366, q2364, q2367⟩
            · -- none
              refine pd_top (v' := .null) (by rw [q2367]; rfl) ?_
              rw [q2367] at hl
              have hl : lv_has ls 11 [(9, .int (nI 1)), (8, .int (nI 0)), (7, .null), (6, .ref (A i1775)), (5, .null), (4, .int (nI 1)), (3, .int (nI 4)), (0, .ref x), (1, .ref y), (2, .int (nI 0))] := hl
              refine lv_ifnullN (tgt := 145) hx hb d_p1m14_132 (by decide) ?_
              refine lv_bipush (v := -2) hx hb d_p1m14_145 (by decide) ?_
              have hup : gr_up n R cs false = none := (if_pos ⟨rfl, by omega⟩).trans q2364
              have hfi : gr_find R n (gr_w cs 4) = some i1775 := q1773
              have hse : gr_find R n (gr_w cs 5) = none := q2179
              have hhd : gr_hd n R cs false 4 (none) (some i1775) (none) = .inl (-2) := rfl
              have hg : gr_dc n R cs false (if false = true then 3 else 4) = ((-2), n, R) := by show gr_dc n R cs false 4 = _; unfold gr_dc; rw [hup, hfi, hse, hhd]
              exact pd_iret (v := (-2)) X w ⟨by rw [hg], pd_kx.mono (us := [6, 7, 8, 9, 10]) (pd_kx.tr (pd_kx.tr (k1660) (k1701)) (k1737)) (by simp), A, (by rw [hg]; exact ⟨lb, cl, me, ru, bk, f1748, hz_x, f1757, f1758, f1759, f1760, f1761, ht60⟩)⟩ (by decide) (by decide) d_p1m14_147
            · -- some
              refine pd_top (v' := .ref (A i2366)) (by rw [q2367]; rfl) ?_
              rw [q2367] at hl
              have hl : lv_has ls 11 [(9, .int (nI 1)), (8, .int (nI 0)), (7, .null), (6, .ref (A i1775)), (5, .ref (A i2366)), (4, .int (nI 1)), (3, .int (nI 4)), (0, .ref x), (1, .ref y), (2, .int (nI 0))] := hl
              have i2366lt := gr_fi_lt q2364
              refine lv_ifnull hx hb d_p1m14_132 ?_
              refine lv_iload hx hb d_p1m14_135 (lv_at hl 1 rfl) ?_
              refine pd_zne (tgt := 145) hx hb d_p1m14_137 (by decide) (by decide) (fun q => absurd q (by decide)) (fun _ => ?_)
              refine lv_iload hx hb d_p1m14_140 (lv_at hl 0 rfl) ?_
              refine pd_zeq (tgt := 148) hx hb d_p1m14_142 (by decide) (by decide) (fun q => absurd q (by decide)) (fun _ => ?_)
              refine lv_bipush (v := -2) hx hb d_p1m14_145 (by decide) ?_
              have hup : gr_up n R cs false = some i2366 := (if_pos ⟨rfl, by omega⟩).trans q2364
              have hfi : gr_find R n (gr_w cs 4) = some i1775 := q1773
              have hse : gr_find R n (gr_w cs 5) = none := q2179
              have hhd : gr_hd n R cs false 4 (some i2366) (some i1775) (none) = .inl (-2) := by rw [gr_hd_s, if_pos (by simp; omega)]
              have hg : gr_dc n R cs false (if false = true then 3 else 4) = ((-2), n, R) := by show gr_dc n R cs false 4 = _; unfold gr_dc; rw [hup, hfi, hse, hhd]
              exact pd_iret (v := (-2)) X w ⟨by rw [hg], pd_kx.mono (us := [6, 7, 8, 9, 10]) (pd_kx.tr (pd_kx.tr (k1660) (k1701)) (k1737)) (by simp), A, (by rw [hg]; exact ⟨lb, cl, me, ru, bk, f1748, hz_x, f1757, f1758, f1759, f1760, f1761, ht60⟩)⟩ (by decide) (by decide) d_p1m14_147
        · -- some
          refine pd_top (v' := .ref (A i2181)) (by rw [q2182]; rfl) ?_
          rw [q2182] at hl
          have hl : lv_has ls 11 [(8, .int (nI 0)), (7, .ref (A i2181)), (6, .ref (A i1775)), (5, va_rf r1685), (4, .int (nI 1)), (3, .int (nI 4)), (0, .ref x), (1, .ref y), (2, .int (nI 0))] := hl
          have i2181lt := gr_fi_lt q2179
          refine lv_ifnonnull (tgt := 127) hx hb d_p1m14_110 (by decide) ?_
          refine lv_iconst (v := nI 0) hx hb d_p1m14_127 (by decide) ?_
          refine lv_istore (lv' := [(9, .int (nI 0)), (8, .int (nI 0)), (7, .ref (A i2181)), (6, .ref (A i1775)), (5, va_rf r1685), (4, .int (nI 1)), (3, .int (nI 4)), (0, .ref x), (1, .ref y), (2, .int (nI 0))]) hx hb d_p1m14_128 hl (by decide) rfl (fun ls hl => ?_)
          refine pd_oload hx hb d_p1m14_130 (lv_at hl 4 rfl) ?_
          rcases pd_om e1697 with ⟨q2373, q2376⟩ | ⟨i2375, q2373, q2376⟩
          · -- none
            refine pd_top (v' := .null) (by rw [q2376]; rfl) ?_
            rw [q2376] at hl
            have hl : lv_has ls 11 [(9, .int (nI 0)), (8, .int (nI 0)), (7, .ref (A i2181)), (6, .ref (A i1775)), (5, .null), (4, .int (nI 1)), (3, .int (nI 4)), (0, .ref x), (1, .ref y), (2, .int (nI 0))] := hl
            refine lv_ifnullN (tgt := 145) hx hb d_p1m14_132 (by decide) ?_
            refine lv_bipush (v := -2) hx hb d_p1m14_145 (by decide) ?_
            have hup : gr_up n R cs false = none := (if_pos ⟨rfl, by omega⟩).trans q2373
            have hfi : gr_find R n (gr_w cs 4) = some i1775 := q1773
            have hse : gr_find R n (gr_w cs 5) = some i2181 := q2179
            have hhd : gr_hd n R cs false 4 (none) (some i1775) (some i2181) = .inl (-2) := rfl
            have hg : gr_dc n R cs false (if false = true then 3 else 4) = ((-2), n, R) := by show gr_dc n R cs false 4 = _; unfold gr_dc; rw [hup, hfi, hse, hhd]
            exact pd_iret (v := (-2)) X w ⟨by rw [hg], pd_kx.mono (us := [6, 7, 8, 9, 10]) (pd_kx.tr (pd_kx.tr (k1660) (k1701)) (k1737)) (by simp), A, (by rw [hg]; exact ⟨lb, cl, me, ru, bk, f1748, hz_x, f1757, f1758, f1759, f1760, f1761, ht60⟩)⟩ (by decide) (by decide) d_p1m14_147
          · -- some
            refine pd_top (v' := .ref (A i2375)) (by rw [q2376]; rfl) ?_
            rw [q2376] at hl
            have hl : lv_has ls 11 [(9, .int (nI 0)), (8, .int (nI 0)), (7, .ref (A i2181)), (6, .ref (A i1775)), (5, .ref (A i2375)), (4, .int (nI 1)), (3, .int (nI 4)), (0, .ref x), (1, .ref y), (2, .int (nI 0))] := hl
            have i2375lt := gr_fi_lt q2373
            refine lv_ifnull hx hb d_p1m14_132 ?_
            refine lv_iload hx hb d_p1m14_135 (lv_at hl 1 rfl) ?_
            refine pd_zne (tgt := 145) hx hb d_p1m14_137 (by decide) (by decide) (fun q => absurd q (by decide)) (fun _ => ?_)
            refine lv_iload hx hb d_p1m14_140 (lv_at hl 0 rfl) ?_
            refine pd_zeq (tgt := 148) hx hb d_p1m14_142 (by decide) (by decide) (fun _ => ?_) (fun q => absurd q (by decide))
            refine lv_aload_n hx hb d_p1m14_148 rfl (lv_at hl 7 rfl) ?_
            refine pd_get X w f1748 rfl 1 (by decide) mT_368 rfl rfl d_p1m14_149 ?_
            refine lv_aload_n hx hb d_p1m14_152 rfl (lv_at hl 8 rfl) ?_
            refine lv_iconst (v := nI 1) hx hb d_p1m14_153 (by decide) ?_
            refine pd_cV (a := y) (As := [.int (nI 1)]) (rest := [.ref cl]) X w f1749 rfl (c_Line_word l G h1735 (by assumption) (by omega)) ok_Line_word ⟨mT_574, mT_575⟩ mT_573 ⟨by decide, by decide⟩ rfl hl.1 rfl (Nat.le_of_ble_eq_true rfl) d_p1m14_154 ⟨by decide, by decide⟩ (fun r2381 h2382 H locs hp2383 w => ?_)
            refine W.widen (k := 8) (n := 256) (by decide) (by decide) ?_
            obtain ⟨k2384, ds2385, e2386, f2387⟩ := hp2383
            have f2395 := k2384 _ _ f1748 List.not_mem_nil
            have f2396 := k2384 _ _ f1749 List.not_mem_nil
            have f2397 := k2384 _ _ f1750 List.not_mem_nil
            have f2398 := k2384 _ _ f1751 List.not_mem_nil
            have f2399 := k2384 _ _ f1752 List.not_mem_nil
            have f2400 := k2384 _ _ f1753 List.not_mem_nil
            have f2401 := k2384 _ _ f1743 List.not_mem_nil
            have f2402 := k2384 _ _ f1754 List.not_mem_nil
            have f2403 := k2384 _ _ f1755 List.not_mem_nil
            have f2404 := k2384 _ _ f1756 List.not_mem_nil
            have f2405 := k2384 _ _ f1744 List.not_mem_nil
            have f2406 := f1757.kx k2384 List.not_mem_nil List.not_mem_nil
            have f2407 := f1758.kx k2384 List.not_mem_nil List.not_mem_nil List.not_mem_nil
            have f2408 := f1759.kx k2384 List.not_mem_nil List.not_mem_nil List.not_mem_nil
            have f2409 := f1760.kx k2384 List.not_mem_nil List.not_mem_nil List.not_mem_nil
            have f2410 := f1761.kx k2384 List.not_mem_nil List.not_mem_nil List.not_mem_nil List.not_mem_nil List.not_mem_nil
            have f2411 := f1762.kx k2384 List.not_mem_nil
            have f2412 := f1763.kx k2384 List.not_mem_nil
            have f2413 := f1764.kx k2384 List.not_mem_nil
            have f2414 := f1765.kx k2384 List.not_mem_nil
            have f2415 := f1766.kx k2384 List.not_mem_nil
            have f2416 := f1767.kx k2384 List.not_mem_nil
            have f2417 := f1768.kx k2384 List.not_mem_nil
            have f2418 := f1740.kx k2384 List.not_mem_nil
            obtain ⟨v2388, g2389, f2390, f2391, gf2392, gc2393, gl2394⟩ := id f2387
            subst e2386
            refine pd_cV (a := cl) (As := [.ref r2381]) (rest := []) X w f2399 rfl (c_Classes_find l G h2382 (by assumption) (by assumption)) ok_Classes_find ⟨mT_773, mT_774⟩ mT_772 ⟨by decide, by decide⟩ rfl hl.1 rfl (Nat.le_of_ble_eq_true rfl) d_p1m14_157 ⟨by decide, by decide⟩ (fun r2419 h2420 H locs hp2421 w => ?_)
            refine W.widen (k := 8) (n := 256) (by decide) (by decide) ?_
            obtain ⟨e2422, rfl⟩ := hp2421
            rcases pd_om e2422 with ⟨q2423, q2426⟩ | ⟨i2425, q2423, q2426⟩
            · -- none
              refine pd_top (v' := .null) (by rw [q2426]; rfl) ?_
              have hl : lv_has ls 11 [(9, .int (nI 0)), (8, .int (nI 0)), (7, .ref (A i2181)), (6, .ref (A i1775)), (5, .ref (A i2375)), (4, .int (nI 1)), (3, .int (nI 4)), (0, .ref x), (1, .ref y), (2, .int (nI 0))] := hl
              refine lv_ifnullN (tgt := 166) hx hb d_p1m14_160 (by decide) ?_
              refine lv_aload hx hb d_p1m14_166 (lv_at hl 3 rfl) ?_
              refine lv_ifnull hx hb d_p1m14_168 ?_
              refine lv_aload hx hb d_p1m14_171 (lv_at hl 3 rfl) ?_
              refine lv_aload hx hb d_p1m14_173 (lv_at hl 2 rfl) ?_
              refine lv_acmp_ne (rx := (some (A i1775))) (ry := (some (A i2181))) (tgt := 182) hx hb d_p1m14_175 (by decide) (fun q2429 => ?_) (fun q2429 => ?_)
              · -- taken: 182
                refine lv_iconst (v := nI 0) hx hb d_p1m14_182 (by decide) ?_
                refine lv_istore (lv' := [(10, .int (nI 0)), (9, .int (nI 0)), (8, .int (nI 0)), (7, .ref (A i2181)), (6, .ref (A i1775)), (5, .ref (A i2375)), (4, .int (nI 1)), (3, .int (nI 4)), (0, .ref x), (1, .ref y), (2, .int (nI 0))]) hx hb d_p1m14_183 hl (by decide) rfl (fun ls hl => ?_)
                refine lv_aload hx hb d_p1m14_185 (lv_at hl 5 rfl) ?_
                obtain ⟨nm2430, fx2431, f2432, f2433, f2434⟩ := f2411.1 i2375 (by omega)
                obtain ⟨v2435, g2436, f2437, f2438, gf2439, gc2440, gl2441⟩ := id f2433
                obtain ⟨v2442, cap2443, g2444, f2445, z2446, z2447, z2448, z2449, z2450⟩ := id f2434
                refine pd_get X w f2432 rfl 2 (by decide) mT_260 rfl rfl d_p1m14_187 ?_
                refine pd_bne (tgt := 214) hx hb d_p1m14_190 (by decide) (fun q2451 => ?_) (fun q2451 => ?_)
                · -- taken: 214
                  refine lv_bipush (v := -4) hx hb d_p1m14_214 (by decide) ?_
                  have hup : gr_up n R cs false = some i2375 := (if_pos ⟨rfl, by omega⟩).trans q2373
                  have hfi : gr_find R n (gr_w cs 4) = some i1775 := q1773
                  have hse : gr_find R n (gr_w cs 5) = some i2181 := q2179
                  have hhd : gr_hd n R cs false 4 (some i2375) (some i1775) (some i2181) = .inl (-4) := by rw [gr_hd_s, if_neg (by simp), if_neg (by rw [q2423]; simp), if_pos (Or.inl q2451)]
                  have hg : gr_dc n R cs false (if false = true then 3 else 4) = ((-4), n, R) := by show gr_dc n R cs false 4 = _; unfold gr_dc; rw [hup, hfi, hse, hhd]
                  exact pd_iret (v := (-4)) X w ⟨by rw [hg], pd_kx.mono (us := [6, 7, 8, 9, 10]) (pd_kx.tr (pd_kx.tr (pd_kx.tr (k1660) (k1701)) (k1737)) (k2384)) (by simp), A, (by rw [hg]; exact ⟨lb, cl, me, ru, bk, f2395, hz_x, f2406, f2407, f2408, f2409, f2410, ht60⟩)⟩ (by decide) (by decide) d_p1m14_216
                · -- not taken: 193
                  refine lv_aload hx hb d_p1m14_193 (lv_at hl 4 rfl) ?_
                  refine pd_cS (As := [.ref (A i1775)]) (rest := []) X w (c_PolicyDesk_isPlainClass l G h2382 (A := A) (n := n) (R := R) (o := some i1775) (by assumption) (fun t ht => by cases ht; omega)) ok_PolicyDesk_isPlainClass mT_778 mT_777 ⟨by decide, by decide⟩ rfl hl.1 rfl (Nat.le_of_ble_eq_true rfl) d_p1m14_195 ⟨by decide, by decide⟩ (fun r2452 h2453 H locs hp2454 w => ?_)
                  refine W.widen (k := 8) (n := 256) (by decide) (by decide) ?_
                  obtain ⟨e2455, rfl⟩ := hp2454
                  refine pd_bne (tgt := 214) hx hb d_p1m14_198 (by decide) (fun q2456 => ?_) (fun q2456 => ?_)
                  · -- taken: 214
                    refine lv_bipush (v := -4) hx hb d_p1m14_214 (by decide) ?_
                    have hup : gr_up n R cs false = some i2375 := (if_pos ⟨rfl, by omega⟩).trans q2373
                    have hfi : gr_find R n (gr_w cs 4) = some i1775 := q1773
                    have hse : gr_find R n (gr_w cs 5) = some i2181 := q2179
                    have hhd : gr_hd n R cs false 4 (some i2375) (some i1775) (some i2181) = .inl (-4) := by rw [gr_hd_s, if_neg (by simp), if_neg (by rw [q2423]; simp), if_pos (Or.inr (Or.inl (e2455.symm.trans q2456)))]
                    have hg : gr_dc n R cs false (if false = true then 3 else 4) = ((-4), n, R) := by show gr_dc n R cs false 4 = _; unfold gr_dc; rw [hup, hfi, hse, hhd]
                    exact pd_iret (v := (-4)) X w ⟨by rw [hg], pd_kx.mono (us := [6, 7, 8, 9, 10]) (pd_kx.tr (pd_kx.tr (pd_kx.tr (k1660) (k1701)) (k1737)) (k2384)) (by simp), A, (by rw [hg]; exact ⟨lb, cl, me, ru, bk, f2395, hz_x, f2406, f2407, f2408, f2409, f2410, ht60⟩)⟩ (by decide) (by decide) d_p1m14_216
                  · -- not taken: 201
                    refine lv_aload hx hb d_p1m14_201 (lv_at hl 3 rfl) ?_
                    refine pd_cS (As := [.ref (A i2181)]) (rest := []) X w (c_PolicyDesk_isPlainClass l G h2382 (A := A) (n := n) (R := R) (o := some i2181) (by assumption) (fun t ht => by cases ht; omega)) ok_PolicyDesk_isPlainClass mT_778 mT_777 ⟨by decide, by decide⟩ rfl hl.1 rfl (Nat.le_of_ble_eq_true rfl) d_p1m14_203 ⟨by decide, by decide⟩ (fun r2457 h2458 H locs hp2459 w => ?_)
                    refine W.widen (k := 8) (n := 256) (by decide) (by decide) ?_
                    obtain ⟨e2460, rfl⟩ := hp2459
                    refine pd_bne (tgt := 214) hx hb d_p1m14_206 (by decide) (fun q2461 => ?_) (fun q2461 => ?_)
                    · -- taken: 214
                      refine lv_bipush (v := -4) hx hb d_p1m14_214 (by decide) ?_
                      have hup : gr_up n R cs false = some i2375 := (if_pos ⟨rfl, by omega⟩).trans q2373
                      have hfi : gr_find R n (gr_w cs 4) = some i1775 := q1773
                      have hse : gr_find R n (gr_w cs 5) = some i2181 := q2179
                      have hhd : gr_hd n R cs false 4 (some i2375) (some i1775) (some i2181) = .inl (-4) := by rw [gr_hd_s, if_neg (by simp), if_neg (by rw [q2423]; simp), if_pos (Or.inr (Or.inr (Or.inl (e2460.symm.trans q2461))))]
                      have hg : gr_dc n R cs false (if false = true then 3 else 4) = ((-4), n, R) := by show gr_dc n R cs false 4 = _; unfold gr_dc; rw [hup, hfi, hse, hhd]
                      exact pd_iret (v := (-4)) X w ⟨by rw [hg], pd_kx.mono (us := [6, 7, 8, 9, 10]) (pd_kx.tr (pd_kx.tr (pd_kx.tr (k1660) (k1701)) (k1737)) (k2384)) (by simp), A, (by rw [hg]; exact ⟨lb, cl, me, ru, bk, f2395, hz_x, f2406, f2407, f2408, f2409, f2410, ht60⟩)⟩ (by decide) (by decide) d_p1m14_216
                    · -- not taken: 209
                      refine lv_iload hx hb d_p1m14_209 (lv_at hl 0 rfl) ?_
                      refine pd_zeq (tgt := 217) hx hb d_p1m14_211 (by decide) (by decide) (fun _ => ?_) (fun q => absurd q (by decide))
                      refine lv_aload_n hx hb d_p1m14_217 rfl (lv_at hl 8 rfl) ?_
                      refine pd_get X w f2395 rfl 1 (by decide) mT_368 rfl rfl d_p1m14_218 ?_
                      refine lv_aload_n hx hb d_p1m14_221 rfl (lv_at hl 9 rfl) ?_
                      refine lv_iconst (v := nI 1) hx hb d_p1m14_222 (by decide) ?_
                      refine pd_cV (a := y) (As := [.int (nI 1)]) (rest := [.ref cl]) X w f2396 rfl (c_Line_word l G h2382 (by assumption) (by omega)) ok_Line_word ⟨mT_574, mT_575⟩ mT_573 ⟨by decide, by decide⟩ rfl hl.1 rfl (Nat.le_of_ble_eq_true rfl) d_p1m14_223 ⟨by decide, by decide⟩ (fun r2463 h2464 H locs hp2465 w => ?_)
                      refine W.widen (k := 10) (n := 320) (by decide) (by decide) ?_
                      obtain ⟨k2466, ds2467, e2468, f2469⟩ := hp2465
                      have f2477 := k2466 _ _ f2395 List.not_mem_nil
                      have f2478 := k2466 _ _ f2396 List.not_mem_nil
                      have f2479 := k2466 _ _ f2397 List.not_mem_nil
                      have f2480 := k2466 _ _ f2398 List.not_mem_nil
                      have f2481 := k2466 _ _ f2399 List.not_mem_nil
                      have f2482 := k2466 _ _ f2400 List.not_mem_nil
                      have f2483 := k2466 _ _ f2401 List.not_mem_nil
                      have f2484 := k2466 _ _ f2390 List.not_mem_nil
                      have f2485 := k2466 _ _ f2432 List.not_mem_nil
                      have f2486 := k2466 _ _ f2437 List.not_mem_nil
                      have f2487 := k2466 _ _ f2445 List.not_mem_nil
                      have f2488 := k2466 _ _ f2402 List.not_mem_nil
                      have f2489 := k2466 _ _ f2403 List.not_mem_nil
                      have f2490 := k2466 _ _ f2404 List.not_mem_nil
                      have f2491 := k2466 _ _ f2405 List.not_mem_nil
                      have f2492 := k2466 _ _ f2391 List.not_mem_nil
                      have f2493 := k2466 _ _ f2438 List.not_mem_nil
                      have f2494 := f2406.kx k2466 List.not_mem_nil List.not_mem_nil
                      have f2495 := f2407.kx k2466 List.not_mem_nil List.not_mem_nil List.not_mem_nil
                      have f2496 := f2408.kx k2466 List.not_mem_nil List.not_mem_nil List.not_mem_nil
                      have f2497 := f2409.kx k2466 List.not_mem_nil List.not_mem_nil List.not_mem_nil
                      have f2498 := f2410.kx k2466 List.not_mem_nil List.not_mem_nil List.not_mem_nil List.not_mem_nil List.not_mem_nil
                      have f2499 := f2411.kx k2466 List.not_mem_nil
                      have f2500 := f2412.kx k2466 List.not_mem_nil
                      have f2501 := f2413.kx k2466 List.not_mem_nil
                      have f2502 := f2414.kx k2466 List.not_mem_nil
                      have f2503 := f2415.kx k2466 List.not_mem_nil
                      have f2504 := f2416.kx k2466 List.not_mem_nil
                      have f2505 := f2417.kx k2466 List.not_mem_nil
                      have f2506 := f2418.kx k2466 List.not_mem_nil
                      have f2507 := f2387.kx k2466 List.not_mem_nil
                      have f2508 := f2433.kx k2466 List.not_mem_nil
                      have f2509 := f2434.kx k2466 List.not_mem_nil List.not_mem_nil List.not_mem_nil
                      obtain ⟨v2470, g2471, f2472, f2473, gf2474, gc2475, gl2476⟩ := id f2469
                      subst e2468
                      refine lv_iload_n hx hb d_p1m14_226 rfl (lv_at hl 10 rfl) ?_
                      refine lv_aload hx hb d_p1m14_227 (lv_at hl 5 rfl) ?_
                      refine lv_aload hx hb d_p1m14_229 (lv_at hl 4 rfl) ?_
                      refine lv_aload hx hb d_p1m14_231 (lv_at hl 3 rfl) ?_
                      refine pd_cV (a := cl) (As := [.ref r2463, .int (nI 0), .ref (A i2375), .ref (A i1775), .ref (A i2181)]) (rest := []) X w f2481 rfl (c_Classes_add l G h2464 (A := A) (n := n) (R := R) (bi := false) (ab := some i2375) (fi := some i1775) (se := some i2181) (by assumption) (by assumption) (fun t ht => by cases ht; omega) (fun t ht => by cases ht; omega) (fun t ht => by cases ht; omega)) ok_Classes_add ⟨mT_781, mT_782⟩ mT_780 ⟨by decide, by decide⟩ rfl hl.1 rfl (Nat.le_of_ble_eq_true rfl) d_p1m14_233 ⟨by decide, by decide⟩ (fun r2510 h2511 H locs hp2512 w => ?_)
                      refine W.widen (k := 40) (n := 752) (by decide) (by decide) ?_
                      obtain ⟨k2513, e2514, A2515, ag2516, f2517⟩ := hp2512
                      have f2518 := k2513 _ _ f2477 (show (5 : Nat) ∉ [6, 7, 8, 9, 10] by decide)
                      have f2519 := k2513 _ _ f2478 (show (0 : Nat) ∉ [6, 7, 8, 9, 10] by decide)
                      have f2520 := k2513 _ _ f2479 (show (0 : Nat) ∉ [6, 7, 8, 9, 10] by decide)
                      have f2521 := k2513 _ _ f2480 (show (0 : Nat) ∉ [6, 7, 8, 9, 10] by decide)
                      have f2522 := k2513 _ _ f2482 (show (0 : Nat) ∉ [6, 7, 8, 9, 10] by decide)
                      have f2523 := k2513 _ _ f2483 (show (0 : Nat) ∉ [6, 7, 8, 9, 10] by decide)
                      have f2524 := k2513 _ _ f2484 (show (0 : Nat) ∉ [6, 7, 8, 9, 10] by decide)
                      have f2525 := k2513 _ _ f2485 (show (0 : Nat) ∉ [6, 7, 8, 9, 10] by decide)
                      have f2526 := k2513 _ _ f2486 (show (0 : Nat) ∉ [6, 7, 8, 9, 10] by decide)
                      have f2527 := k2513 _ _ f2487 (show (0 : Nat) ∉ [6, 7, 8, 9, 10] by decide)
                      have f2528 := k2513 _ _ f2472 (show (0 : Nat) ∉ [6, 7, 8, 9, 10] by decide)
                      have f2529 := k2513 _ _ f2488 (show (0 : Nat) ∉ [6, 7, 8, 9, 10] by decide)
                      have f2530 := k2513 _ _ f2489 (show (0 : Nat) ∉ [6, 7, 8, 9, 10] by decide)
                      have f2531 := k2513 _ _ f2490 (show (0 : Nat) ∉ [6, 7, 8, 9, 10] by decide)
                      have f2532 := k2513 _ _ f2491 (show (0 : Nat) ∉ [6, 7, 8, 9, 10] by decide)
                      have f2533 := k2513 _ _ f2492 (show (0 : Nat) ∉ [6, 7, 8, 9, 10] by decide)
                      have f2534 := k2513 _ _ f2493 (show (0 : Nat) ∉ [6, 7, 8, 9, 10] by decide)
                      have f2535 := k2513 _ _ f2473 (show (0 : Nat) ∉ [6, 7, 8, 9, 10] by decide)
                      have f2536 := f2494.kx k2513 (show (1 : Nat) ∉ [6, 7, 8, 9, 10] by decide) (show (2 : Nat) ∉ [6, 7, 8, 9, 10] by decide)
                      have f2537 := f2496.kx k2513 (show (11 : Nat) ∉ [6, 7, 8, 9, 10] by decide) (show (12 : Nat) ∉ [6, 7, 8, 9, 10] by decide) (show (0 : Nat) ∉ [6, 7, 8, 9, 10] by decide)
                      have f2538 := f2497.kx k2513 (show (13 : Nat) ∉ [6, 7, 8, 9, 10] by decide) (show (14 : Nat) ∉ [6, 7, 8, 9, 10] by decide) (show (0 : Nat) ∉ [6, 7, 8, 9, 10] by decide)
                      have f2539 := f2498.kx k2513 (show (15 : Nat) ∉ [6, 7, 8, 9, 10] by decide) (show (16 : Nat) ∉ [6, 7, 8, 9, 10] by decide) (show (17 : Nat) ∉ [6, 7, 8, 9, 10] by decide) (show (3 : Nat) ∉ [6, 7, 8, 9, 10] by decide) (show (4 : Nat) ∉ [6, 7, 8, 9, 10] by decide)
                      have f2540 := f2500.kx k2513 (show (0 : Nat) ∉ [6, 7, 8, 9, 10] by decide)
                      have f2541 := f2501.kx k2513 (show (0 : Nat) ∉ [6, 7, 8, 9, 10] by decide)
                      have f2542 := f2502.kx k2513 (show (0 : Nat) ∉ [6, 7, 8, 9, 10] by decide)
                      have f2543 := f2503.kx k2513 (show (0 : Nat) ∉ [6, 7, 8, 9, 10] by decide)
                      have f2544 := f2504.kx k2513 (show (0 : Nat) ∉ [6, 7, 8, 9, 10] by decide)
                      have f2545 := f2505.kx k2513 (show (0 : Nat) ∉ [6, 7, 8, 9, 10] by decide)
                      have f2546 := f2506.kx k2513 (show (0 : Nat) ∉ [6, 7, 8, 9, 10] by decide)
                      have f2547 := f2507.kx k2513 (show (0 : Nat) ∉ [6, 7, 8, 9, 10] by decide)
                      have f2548 := f2508.kx k2513 (show (0 : Nat) ∉ [6, 7, 8, 9, 10] by decide)
                      have f2549 := f2509.kx k2513 (show (0 : Nat) ∉ [6, 7, 8, 9, 10] by decide) (show (0 : Nat) ∉ [6, 7, 8, 9, 10] by decide) (show (0 : Nat) ∉ [6, 7, 8, 9, 10] by decide)
                      have f2550 := f2469.kx k2513 (show (0 : Nat) ∉ [6, 7, 8, 9, 10] by decide)
                      have hup : gr_up n R cs false = some i2375 := (if_pos ⟨rfl, by omega⟩).trans q2373
                      have hfi : gr_find R n (gr_w cs 4) = some i1775 := q1773
                      have hse : gr_find R n (gr_w cs 5) = some i2181 := q2179
                      have hhd : gr_hd n R cs false 4 (some i2375) (some i1775) (some i2181) = .inr i2375 := by rw [gr_hd_s, if_neg (by simp), if_neg (by rw [q2423]; simp), if_neg (fun h9 => by rcases h9 with h9 | h9 | h9 | h9; rw [q2451] at h9; cases h9; rw [← e2455, q2456] at h9; cases h9; rw [← e2460, q2461] at h9; cases h9; exact q2429 (by rw [Option.some.inj h9.2]))]
                      have hg : gr_dc n R cs false (if false = true then 3 else 4) = gr_cadd n R (gr_row R n (gr_w cs 1) false (some i2375) (some i1775) (some i2181)) := by show gr_dc n R cs false 4 = _; unfold gr_dc; rw [hup, hfi, hse, hhd]
                      exact pd_iret (v := r2510) X w ⟨by rw [hg]; exact e2514, pd_kx.tr (pd_kx.mono (us := [6, 7, 8, 9, 10]) (pd_kx.tr (pd_kx.tr (pd_kx.tr (pd_kx.tr (k1660) (k1701)) (k1737)) (k2384)) (k2466)) (by simp)) (k2513), A2515, (by rw [hg]; exact ⟨lb, cl, me, ru, bk, f2518, hz_x, f2536, f2517, (pd_Mems.ag f2537 ag2516 gr_cadd_le), f2538, f2539, ht60⟩)⟩ (by decide) (by decide) d_p1m14_236
              · -- not taken: 178
                refine lv_iconst (v := nI 1) hx hb d_p1m14_178 (by decide) ?_
                refine lv_goto (tgt := 183) hx hb d_p1m14_179 (by decide) ?_
                refine lv_istore (lv' := [(10, .int (nI 1)), (9, .int (nI 0)), (8, .int (nI 0)), (7, .ref (A i2181)), (6, .ref (A i1775)), (5, .ref (A i2375)), (4, .int (nI 1)), (3, .int (nI 4)), (0, .ref x), (1, .ref y), (2, .int (nI 0))]) hx hb d_p1m14_183 hl (by decide) rfl (fun ls hl => ?_)
                refine lv_aload hx hb d_p1m14_185 (lv_at hl 5 rfl) ?_
                obtain ⟨nm2551, fx2552, f2553, f2554, f2555⟩ := f2411.1 i2375 (by omega)
                obtain ⟨v2556, g2557, f2558, f2559, gf2560, gc2561, gl2562⟩ := id f2554
                obtain ⟨v2563, cap2564, g2565, f2566, z2567, z2568, z2569, z2570, z2571⟩ := id f2555
                refine pd_get X w f2553 rfl 2 (by decide) mT_260 rfl rfl d_p1m14_187 ?_
                refine pd_bne (tgt := 214) hx hb d_p1m14_190 (by decide) (fun q2572 => ?_) (fun q2572 => ?_)
                · -- taken: 214
                  refine lv_bipush (v := -4) hx hb d_p1m14_214 (by decide) ?_
                  have hup : gr_up n R cs false = some i2375 := (if_pos ⟨rfl, by omega⟩).trans q2373
                  have hfi : gr_find R n (gr_w cs 4) = some i1775 := q1773
                  have hse : gr_find R n (gr_w cs 5) = some i2181 := q2179
                  have hhd : gr_hd n R cs false 4 (some i2375) (some i1775) (some i2181) = .inl (-4) := by rw [gr_hd_s, if_neg (by simp), if_neg (by rw [q2423]; simp), if_pos (Or.inl q2572)]
                  have hg : gr_dc n R cs false (if false = true then 3 else 4) = ((-4), n, R) := by show gr_dc n R cs false 4 = _; unfold gr_dc; rw [hup, hfi, hse, hhd]
                  exact pd_iret (v := (-4)) X w ⟨by rw [hg], pd_kx.mono (us := [6, 7, 8, 9, 10]) (pd_kx.tr (pd_kx.tr (pd_kx.tr (k1660) (k1701)) (k1737)) (k2384)) (by simp), A, (by rw [hg]; exact ⟨lb, cl, me, ru, bk, f2395, hz_x, f2406, f2407, f2408, f2409, f2410, ht60⟩)⟩ (by decide) (by decide) d_p1m14_216
                · -- not taken: 193
                  refine lv_aload hx hb d_p1m14_193 (lv_at hl 4 rfl) ?_
                  refine pd_cS (As := [.ref (A i1775)]) (rest := []) X w (c_PolicyDesk_isPlainClass l G h2382 (A := A) (n := n) (R := R) (o := some i1775) (by assumption) (fun t ht => by cases ht; omega)) ok_PolicyDesk_isPlainClass mT_778 mT_777 ⟨by decide, by decide⟩ rfl hl.1 rfl (Nat.le_of_ble_eq_true rfl) d_p1m14_195 ⟨by decide, by decide⟩ (fun r2573 h2574 H locs hp2575 w => ?_)
                  refine W.widen (k := 8) (n := 256) (by decide) (by decide) ?_
                  obtain ⟨e2576, rfl⟩ := hp2575
                  refine pd_bne (tgt := 214) hx hb d_p1m14_198 (by decide) (fun q2577 => ?_) (fun q2577 => ?_)
                  · -- taken: 214
                    refine lv_bipush (v := -4) hx hb d_p1m14_214 (by decide) ?_
                    have hup : gr_up n R cs false = some i2375 := (if_pos ⟨rfl, by omega⟩).trans q2373
                    have hfi : gr_find R n (gr_w cs 4) = some i1775 := q1773
                    have hse : gr_find R n (gr_w cs 5) = some i2181 := q2179
                    have hhd : gr_hd n R cs false 4 (some i2375) (some i1775) (some i2181) = .inl (-4) := by rw [gr_hd_s, if_neg (by simp), if_neg (by rw [q2423]; simp), if_pos (Or.inr (Or.inl (e2576.symm.trans q2577)))]
                    have hg : gr_dc n R cs false (if false = true then 3 else 4) = ((-4), n, R) := by show gr_dc n R cs false 4 = _; unfold gr_dc; rw [hup, hfi, hse, hhd]
                    exact pd_iret (v := (-4)) X w ⟨by rw [hg], pd_kx.mono (us := [6, 7, 8, 9, 10]) (pd_kx.tr (pd_kx.tr (pd_kx.tr (k1660) (k1701)) (k1737)) (k2384)) (by simp), A, (by rw [hg]; exact ⟨lb, cl, me, ru, bk, f2395, hz_x, f2406, f2407, f2408, f2409, f2410, ht60⟩)⟩ (by decide) (by decide) d_p1m14_216
                  · -- not taken: 201
                    refine lv_aload hx hb d_p1m14_201 (lv_at hl 3 rfl) ?_
                    refine pd_cS (As := [.ref (A i2181)]) (rest := []) X w (c_PolicyDesk_isPlainClass l G h2382 (A := A) (n := n) (R := R) (o := some i2181) (by assumption) (fun t ht => by cases ht; omega)) ok_PolicyDesk_isPlainClass mT_778 mT_777 ⟨by decide, by decide⟩ rfl hl.1 rfl (Nat.le_of_ble_eq_true rfl) d_p1m14_203 ⟨by decide, by decide⟩ (fun r2578 h2579 H locs hp2580 w => ?_)
                    refine W.widen (k := 8) (n := 256) (by decide) (by decide) ?_
                    obtain ⟨e2581, rfl⟩ := hp2580
                    refine pd_bne (tgt := 214) hx hb d_p1m14_206 (by decide) (fun q2582 => ?_) (fun q2582 => ?_)
                    · -- taken: 214
                      refine lv_bipush (v := -4) hx hb d_p1m14_214 (by decide) ?_
                      have hup : gr_up n R cs false = some i2375 := (if_pos ⟨rfl, by omega⟩).trans q2373
                      have hfi : gr_find R n (gr_w cs 4) = some i1775 := q1773
                      have hse : gr_find R n (gr_w cs 5) = some i2181 := q2179
                      have hhd : gr_hd n R cs false 4 (some i2375) (some i1775) (some i2181) = .inl (-4) := by rw [gr_hd_s, if_neg (by simp), if_neg (by rw [q2423]; simp), if_pos (Or.inr (Or.inr (Or.inl (e2581.symm.trans q2582))))]
                      have hg : gr_dc n R cs false (if false = true then 3 else 4) = ((-4), n, R) := by show gr_dc n R cs false 4 = _; unfold gr_dc; rw [hup, hfi, hse, hhd]
                      exact pd_iret (v := (-4)) X w ⟨by rw [hg], pd_kx.mono (us := [6, 7, 8, 9, 10]) (pd_kx.tr (pd_kx.tr (pd_kx.tr (k1660) (k1701)) (k1737)) (k2384)) (by simp), A, (by rw [hg]; exact ⟨lb, cl, me, ru, bk, f2395, hz_x, f2406, f2407, f2408, f2409, f2410, ht60⟩)⟩ (by decide) (by decide) d_p1m14_216
                    · -- not taken: 209
                      refine lv_iload hx hb d_p1m14_209 (lv_at hl 0 rfl) ?_
                      refine pd_zeq (tgt := 217) hx hb d_p1m14_211 (by decide) (by decide) (fun q => absurd q (by decide)) (fun _ => ?_)
                      refine lv_bipush (v := -4) hx hb d_p1m14_214 (by decide) ?_
                      have hup : gr_up n R cs false = some i2375 := (if_pos ⟨rfl, by omega⟩).trans q2373
                      have hfi : gr_find R n (gr_w cs 4) = some i1775 := q1773
                      have hse : gr_find R n (gr_w cs 5) = some i2181 := q2179
                      have hhd : gr_hd n R cs false 4 (some i2375) (some i1775) (some i2181) = .inl (-4) := by rw [gr_hd_s, if_neg (by simp), if_neg (by rw [q2423]; simp), if_pos (Or.inr (Or.inr (Or.inr ⟨by simp, congrArg some (hAi _ _ i1775lt i2181lt (Option.some.inj q2429))⟩)))]
                      have hg : gr_dc n R cs false (if false = true then 3 else 4) = ((-4), n, R) := by show gr_dc n R cs false 4 = _; unfold gr_dc; rw [hup, hfi, hse, hhd]
                      exact pd_iret (v := (-4)) X w ⟨by rw [hg], pd_kx.mono (us := [6, 7, 8, 9, 10]) (pd_kx.tr (pd_kx.tr (pd_kx.tr (k1660) (k1701)) (k1737)) (k2384)) (by simp), A, (by rw [hg]; exact ⟨lb, cl, me, ru, bk, f2395, hz_x, f2406, f2407, f2408, f2409, f2410, ht60⟩)⟩ (by decide) (by decide) d_p1m14_216
            · -- some
              refine pd_top (v' := .ref (A i2425)) (by rw [q2426]; rfl) ?_
              have hl : lv_has ls 11 [(9, .int (nI 0)), (8, .int (nI 0)), (7, .ref (A i2181)), (6, .ref (A i1775)), (5, .ref (A i2375)), (4, .int (nI 1)), (3, .int (nI 4)), (0, .ref x), (1, .ref y), (2, .int (nI 0))] := hl
              have i2425lt := gr_fi_lt q2423
              refine lv_ifnull hx hb d_p1m14_160 ?_
              refine lv_bipush (v := -3) hx hb d_p1m14_163 (by decide) ?_
              have hup : gr_up n R cs false = some i2375 := (if_pos ⟨rfl, by omega⟩).trans q2373
              have hfi : gr_find R n (gr_w cs 4) = some i1775 := q1773
              have hse : gr_find R n (gr_w cs 5) = some i2181 := q2179
              have hhd : gr_hd n R cs false 4 (some i2375) (some i1775) (some i2181) = .inl (-3) := by rw [gr_hd_s, if_neg (by simp), if_pos (by rw [q2423]; simp)]
              have hg : gr_dc n R cs false (if false = true then 3 else 4) = ((-3), n, R) := by show gr_dc n R cs false 4 = _; unfold gr_dc; rw [hup, hfi, hse, hhd]
              exact pd_iret (v := (-3)) X w ⟨by rw [hg], pd_kx.mono (us := [6, 7, 8, 9, 10]) (pd_kx.tr (pd_kx.tr (pd_kx.tr (k1660) (k1701)) (k1737)) (k2384)) (by simp), A, (by rw [hg]; exact ⟨lb, cl, me, ru, bk, f2395, hz_x, f2406, f2407, f2408, f2409, f2410, ht60⟩)⟩ (by decide) (by decide) d_p1m14_165
