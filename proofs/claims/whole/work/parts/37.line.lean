/-! a LINE is done -/
/-- letters; classes; members; rules; the audit's texts, how many, the next; spent, asks, granted, syntax lines, decisions -/
abbrev pd_st : Type := List Nat × (Nat × (Nat → pd_cr)) × (Nat × (Nat → pd_mr)) × (Nat × (Nat → pd_rr)) × ((Nat → List Nat) × Nat × Nat) × Int64 × Nat × Nat × Nat × Nat
def pd_DT (G : pd_G) (h : pd_H) (x : Nat) (A B C : Nat → Nat) (z : pd_st) : Prop := pd_DX G h x A B C z.1 z.2.1.1 z.2.1.2 z.2.2.1.1 z.2.2.1.2 z.2.2.2.1.1 z.2.2.2.1.2 z.2.2.2.2.1.1 z.2.2.2.2.1.2.1 z.2.2.2.2.1.2.2 z.2.2.2.2.2.1 z.2.2.2.2.2.2.1 z.2.2.2.2.2.2.2.1 z.2.2.2.2.2.2.2.2.1 z.2.2.2.2.2.2.2.2.2
def gr_do (t0 : List Nat) (n : Nat) (R : Nat → pd_cr) (k : Nat) (M : Nat → pd_mr) (u : Nat) (U : Nat → pd_rr) (T : Nat → List Nat) (kp nx : Nat) (sp : Int64) (an gn sn dn : Nat) (v : Nat) : Int32 × pd_st :=
  if pd_map v = 1 then ((gr_dc n R t0 false 4).1, [], ((gr_dc n R t0 false 4).2.1, (gr_dc n R t0 false 4).2.2), (k, M), (u, U), (T, kp, nx), sp, an, gn, sn, dn)
  else if pd_map v = 2 then ((gr_dc n R t0 true 3).1, [], ((gr_dc n R t0 true 3).2.1, (gr_dc n R t0 true 3).2.2), (k, M), (u, U), (T, kp, nx), sp, an, gn, sn, dn)
  else if pd_map v = 3 ∨ pd_map v = 4 then ((gr_dm n R k M t0).1, [], (n, R), ((gr_dm n R k M t0).2.1, (gr_dm n R k M t0).2.2), (u, U), (T, kp, nx), sp, an, gn, sn, dn)
  else if 5 ≤ pd_map v ∧ pd_map v ≤ 8 then ((gr_dr n R k M u U t0 v).1, [], (n, R), (k, M), ((gr_dr n R k M u U t0 v).2.1, (gr_dr n R k M u U t0 v).2.2), (T, kp, nx), sp, an, gn, sn, dn)
  else ((gr_jg n R k M u U t0 v).1, [], (n, R), (k, M), (u, U), (pd_fu T nx (gr_atx an t0 (gr_jg n R k M u U t0 v).1), min (kp + 1) 12, (nx + 1) % 12), gr_pay sp (gr_jg n R k M u U t0 v).1, an + 1, gr_gn gn (gr_jg n R k M u U t0 v).1, sn, dn + (gr_jg n R k M u U t0 v).2)
def gr_line (t0 : List Nat) (n : Nat) (R : Nat → pd_cr) (k : Nat) (M : Nat → pd_mr) (u : Nat) (U : Nat → pd_rr) (T : Nat → List Nat) (kp nx : Nat) (sp : Int64) (an gn sn dn : Nat) : Int32 × pd_st := match gr_verb (gr_w t0 0) with
  | none => (-1, [], (n, R), (k, M), (u, U), (T, kp, nx), sp, an, gn, sn + 1, dn)
  | some v => if gr_said t0 v = true then gr_do t0 n R k M u U T kp nx sp an gn sn dn v else (-1, [], (n, R), (k, M), (u, U), (T, kp, nx), sp, an, gn, sn + 1, dn)
theorem d_p1m3_0 : decode prog_1_method_3_code 0 = .ok (.new 60, 3) := by decide +kernel
theorem d_p1m3_3 : decode prog_1_method_3_code 3 = .ok (.dup, 1) := by decide +kernel
theorem d_p1m3_4 : decode prog_1_method_3_code 4 = .ok (.aload_n 0, 1) := by decide +kernel
theorem d_p1m3_5 : decode prog_1_method_3_code 5 = .ok (.getfield 10, 3) := by decide +kernel
theorem d_p1m3_8 : decode prog_1_method_3_code 8 = .ok (.invokevirtual 62, 3) := by decide +kernel
theorem d_p1m3_11 : decode prog_1_method_3_code 11 = .ok (.invokespecial 66, 3) := by decide +kernel
theorem d_p1m3_14 : decode prog_1_method_3_code 14 = .ok (.astore_n 1, 1) := by decide +kernel
theorem d_p1m3_15 : decode prog_1_method_3_code 15 = .ok (.aload_n 0, 1) := by decide +kernel
theorem d_p1m3_16 : decode prog_1_method_3_code 16 = .ok (.getfield 10, 3) := by decide +kernel
theorem d_p1m3_19 : decode prog_1_method_3_code 19 = .ok (.iconst 0, 1) := by decide +kernel
theorem d_p1m3_20 : decode prog_1_method_3_code 20 = .ok (.invokevirtual 69, 3) := by decide +kernel
theorem d_p1m3_23 : decode prog_1_method_3_code 23 = .ok (.aload_n 1, 1) := by decide +kernel
theorem d_p1m3_24 : decode prog_1_method_3_code 24 = .ok (.iconst 0, 1) := by decide +kernel
theorem d_p1m3_25 : decode prog_1_method_3_code 25 = .ok (.invokevirtual 73, 3) := by decide +kernel
theorem d_p1m3_28 : decode prog_1_method_3_code 28 = .ok (.invokestatic 77, 3) := by decide +kernel
theorem d_p1m3_31 : decode prog_1_method_3_code 31 = .ok (.astore_n 2, 1) := by decide +kernel
theorem d_p1m3_32 : decode prog_1_method_3_code 32 = .ok (.aload_n 2, 1) := by decide +kernel
theorem d_p1m3_33 : decode prog_1_method_3_code 33 = .ok (.ifnull 11, 3) := by decide +kernel
theorem d_p1m3_36 : decode prog_1_method_3_code 36 = .ok (.aload_n 1, 1) := by decide +kernel
theorem d_p1m3_37 : decode prog_1_method_3_code 37 = .ok (.aload_n 2, 1) := by decide +kernel
theorem d_p1m3_38 : decode prog_1_method_3_code 38 = .ok (.invokestatic 83, 3) := by decide +kernel
theorem d_p1m3_41 : decode prog_1_method_3_code 41 = .ok (.ifCond .ne 15, 3) := by decide +kernel
theorem d_p1m3_44 : decode prog_1_method_3_code 44 = .ok (.aload_n 0, 1) := by decide +kernel
theorem d_p1m3_45 : decode prog_1_method_3_code 45 = .ok (.dup, 1) := by decide +kernel
theorem d_p1m3_46 : decode prog_1_method_3_code 46 = .ok (.getfield 89, 3) := by decide +kernel
theorem d_p1m3_49 : decode prog_1_method_3_code 49 = .ok (.iconst 1, 1) := by decide +kernel
theorem d_p1m3_50 : decode prog_1_method_3_code 50 = .ok (.iadd, 1) := by decide +kernel
theorem d_p1m3_51 : decode prog_1_method_3_code 51 = .ok (.putfield 89, 3) := by decide +kernel
theorem d_p1m3_54 : decode prog_1_method_3_code 54 = .ok (.iconst (-1), 1) := by decide +kernel
theorem d_p1m3_55 : decode prog_1_method_3_code 55 = .ok (.ireturn, 1) := by decide +kernel
theorem d_p1m3_56 : decode prog_1_method_3_code 56 = .ok (.getstatic 93, 3) := by decide +kernel
theorem d_p1m3_59 : decode prog_1_method_3_code 59 = .ok (.aload_n 2, 1) := by decide +kernel
theorem d_p1m3_60 : decode prog_1_method_3_code 60 = .ok (.invokevirtual 99, 3) := by decide +kernel
theorem d_p1m3_63 : decode prog_1_method_3_code 63 = .ok (.iaload, 1) := by decide +kernel
theorem d_p1m3_64 : decode prog_1_method_3_code 64 = .ok (.tableswitch 75 1 8 #[48, 55, 62, 62, 68, 68, 68, 68], 48) := by decide +kernel
theorem d_p1m3_112 : decode prog_1_method_3_code 112 = .ok (.aload_n 0, 1) := by decide +kernel
theorem d_p1m3_113 : decode prog_1_method_3_code 113 = .ok (.aload_n 1, 1) := by decide +kernel
theorem d_p1m3_114 : decode prog_1_method_3_code 114 = .ok (.iconst 0, 1) := by decide +kernel
theorem d_p1m3_115 : decode prog_1_method_3_code 115 = .ok (.invokevirtual 102, 3) := by decide +kernel
theorem d_p1m3_118 : decode prog_1_method_3_code 118 = .ok (.ireturn, 1) := by decide +kernel
theorem d_p1m3_119 : decode prog_1_method_3_code 119 = .ok (.aload_n 0, 1) := by decide +kernel
theorem d_p1m3_120 : decode prog_1_method_3_code 120 = .ok (.aload_n 1, 1) := by decide +kernel
theorem d_p1m3_121 : decode prog_1_method_3_code 121 = .ok (.iconst 1, 1) := by decide +kernel
theorem d_p1m3_122 : decode prog_1_method_3_code 122 = .ok (.invokevirtual 102, 3) := by decide +kernel
theorem d_p1m3_125 : decode prog_1_method_3_code 125 = .ok (.ireturn, 1) := by decide +kernel
theorem d_p1m3_126 : decode prog_1_method_3_code 126 = .ok (.aload_n 0, 1) := by decide +kernel
theorem d_p1m3_127 : decode prog_1_method_3_code 127 = .ok (.aload_n 1, 1) := by decide +kernel
theorem d_p1m3_128 : decode prog_1_method_3_code 128 = .ok (.invokevirtual 106, 3) := by decide +kernel
theorem d_p1m3_131 : decode prog_1_method_3_code 131 = .ok (.ireturn, 1) := by decide +kernel
theorem d_p1m3_132 : decode prog_1_method_3_code 132 = .ok (.aload_n 0, 1) := by decide +kernel
theorem d_p1m3_133 : decode prog_1_method_3_code 133 = .ok (.aload_n 1, 1) := by decide +kernel
theorem d_p1m3_134 : decode prog_1_method_3_code 134 = .ok (.aload_n 2, 1) := by decide +kernel
theorem d_p1m3_135 : decode prog_1_method_3_code 135 = .ok (.invokevirtual 110, 3) := by decide +kernel
theorem d_p1m3_138 : decode prog_1_method_3_code 138 = .ok (.ireturn, 1) := by decide +kernel
theorem d_p1m3_139 : decode prog_1_method_3_code 139 = .ok (.aload_n 0, 1) := by decide +kernel
theorem d_p1m3_140 : decode prog_1_method_3_code 140 = .ok (.aload_n 1, 1) := by decide +kernel
theorem d_p1m3_141 : decode prog_1_method_3_code 141 = .ok (.aload_n 2, 1) := by decide +kernel
theorem d_p1m3_142 : decode prog_1_method_3_code 142 = .ok (.invokevirtual 114, 3) := by decide +kernel
theorem d_p1m3_145 : decode prog_1_method_3_code 145 = .ok (.ireturn, 1) := by decide +kernel
abbrev y_PolicyDesk_line : MethodName := ⟨"PolicyDesk", "line", "()I"⟩
theorem ok_PolicyDesk_line : pd_ok y_PolicyDesk_line prog_1_method_3_code 3 (some .int) 0 := ⟨mT_478, mT_1, by decide, by decide +kernel⟩
abbrev rm_PolicyDesk_line : Room := { frames := 13, cells := 207, slots := 6418, locals := 318 }
set_option maxHeartbeats 4000000 in
set_option maxRecDepth 100000 in
theorem c_PolicyDesk_line (l : Launch) (G : pd_G) (h : pd_H) {x : Nat} {A B C : Nat → Nat} {t0 : List Nat} {n : Nat} {R : Nat → pd_cr} {k : Nat} {M : Nat → pd_mr} {u : Nat} {U : Nat → pd_rr} {T : Nat → List Nat} {kp nx : Nat} {sp : Int64} {an gn sn dn : Nat} (hD : pd_DX G h x A B C t0 n R k M u U T kp nx sp an gn sn dn) (han : an < 1000) : pd_M l y_PolicyDesk_line prog_1_method_3_code 3 (some .int) rm_PolicyDesk_line G h [.ref x] Value.int (fun r h1 => r = (gr_line t0 n R k M u U T kp nx sp an gn sn dn).1 ∧ pd_kx [1, 2, 3, 4, 5, 6, 7, 8, 9, 10, 11, 12, 13, 14, 15, 16, 17, 18, 19] h h1 ∧ ∃ A2 B2 C2, pd_DT G h1 x A2 B2 C2 (gr_line t0 n R k M u U T kp nx sp an gn sn dn).2) := by
  refine pd_M.of (by decide) (Nat.le_of_ble_eq_true rfl) ?_
  intro p e s m below meth c X hmn w ls hl
  have hx := X.1
  have hb := X.2.1
  have hl : lv_has ls 3 [(0, .ref x)] := hl
  obtain ⟨lb, cl, me, ru, bk, hx0, hz_x, hsb, hC, hM, hU, hA, ht60⟩ := id hD
  have hR := hC.rows
  have hMR := hM.mrows
  have hRR := hU.rrows
  have hcw := hR.2.2
  have hAi := hR.2.1
  have hn14 := hcw.1
  have ht21 : (2 : Nat) ≠ 1 := by decide
  have ht10 : (1 : Nat) ≠ 0 := by decide
  have ht20 : (2 : Nat) ≠ 0 := by decide
  refine pd_new (ci := 4) (C := "PolicyDesk$Line") (T := pd_F4) (N := 3) (fs := [.null, .int (nI 0), .null]) 19 X w rfl mT_479 mT_480 mT_22 (pd_hfs (by decide +kernel)) (by decide) (by decide) d_p1m3_0 (fun q1 H hq2 hz3 w => ?_)
  refine W.widen (k := 1) (n := 3) (by decide) (by decide) ?_
  obtain ⟨h4, u7⟩ : ∃ z, z = pd_up h q1 (19, .inr (4, [.null, .int (nI 0), .null])) := ⟨_, rfl⟩
  rw [← u7] at w
  have k5 : pd_kx [] h h4 := by rw [u7]; exact pd_new_kx hq2
  have f6 : h4 q1 = some (19, .inr (4, [.null, .int (nI 0), .null])) := by rw [u7]; exact pd_up_s _ _ _
  have f8 := k5 _ _ hx0 List.not_mem_nil
  have f9 := hsb.kx k5 List.not_mem_nil List.not_mem_nil
  have f10 := hC.kx k5 List.not_mem_nil List.not_mem_nil List.not_mem_nil
  have f11 := hM.kx k5 List.not_mem_nil List.not_mem_nil List.not_mem_nil
  have f12 := hU.kx k5 List.not_mem_nil List.not_mem_nil List.not_mem_nil
  have f13 := hA.kx k5 List.not_mem_nil List.not_mem_nil List.not_mem_nil List.not_mem_nil List.not_mem_nil
  have f14 := hR.kx k5 List.not_mem_nil
  have f15 := hMR.kx k5 List.not_mem_nil
  have f16 := hRR.kx k5 List.not_mem_nil
  refine lv_dup hx hb d_p1m3_3 rfl ?_
  refine lv_aload_n hx hb d_p1m3_4 rfl (lv_at hl 0 rfl) ?_
  refine pd_get X w f8 rfl 0 (by decide) mT_367 rfl rfl d_p1m3_5 ?_
  obtain ⟨v20, cap21, g22, ml23, f24, f25, gf26, gc27, gn28, gp29, ft30, hz31, hz32⟩ := id f9
  refine pd_cV (a := lb) (As := []) (rest := [.ref q1, .ref q1]) X w f24 rfl (c_SB_toString l G h4 (by assumption) (by assumption) (by assumption) (by assumption) (by omega)) ok_SB_toString ⟨mT_482, mT_483⟩ mT_481 ⟨by decide, by decide⟩ rfl hl.1 rfl (Nat.le_of_ble_eq_true rfl) d_p1m3_8 ⟨by decide, by decide⟩ (fun r17 h18 H locs hp19 w => ?_)
  refine W.widen (k := 3) (n := 67) (by decide) (by decide) ?_
  obtain ⟨k33, ds34, e35, f36⟩ := hp19
  have f44 := k33 _ _ f8 List.not_mem_nil
  have f45 := k33 _ _ f6 List.not_mem_nil
  have f46 := k33 _ _ f24 List.not_mem_nil
  have f47 := k33 _ _ f25 List.not_mem_nil
  have f48 := f9.kx k33 List.not_mem_nil List.not_mem_nil
  have f49 := f10.kx k33 List.not_mem_nil List.not_mem_nil List.not_mem_nil
  have f50 := f11.kx k33 List.not_mem_nil List.not_mem_nil List.not_mem_nil
  have f51 := f12.kx k33 List.not_mem_nil List.not_mem_nil List.not_mem_nil
  have f52 := f13.kx k33 List.not_mem_nil List.not_mem_nil List.not_mem_nil List.not_mem_nil List.not_mem_nil
  have f53 := f14.kx k33 List.not_mem_nil
  have f54 := f15.kx k33 List.not_mem_nil
  have f55 := f16.kx k33 List.not_mem_nil
  obtain ⟨v37, g38, f39, f40, gf41, gc42, gl43⟩ := id f36
  have ez9 := e35.symm
  subst ez9
  refine pd_cI (a := q1) (As := [.ref r17]) (rest := [.ref q1]) X w (c_Line_init l G h18 (by assumption) (by assumption) (by assumption)) ok_Line_init rfl mT_532 mT_531 ⟨by decide, by decide⟩ rfl hl.1 rfl (Nat.le_of_ble_eq_true rfl) d_p1m3_11 ⟨by decide, by decide⟩ (fun h57 H locs hp58 w => ?_)
  refine W.widen (k := 4) (n := 74) (by decide) (by decide) ?_
  obtain ⟨k59, st60, fA61, f62, f63, nu64⟩ := hp58
  have f65 := k59 _ _ (pd_nn hx0 hq2) f44
  have f66 := k59 _ _ (pd_ne f46 f45 (by simp)) f46
  have f67 := k59 _ _ (pd_ne f39 f45 (by simp)) f39
  have f68 := k59 _ _ (pd_ne f47 f45 (by simp)) f47
  have f69 := k59 _ _ (pd_ne f40 f45 (by simp)) f40
  have f70 := f48.kx (pd_kq.kx k59 f45) (show (1 : Nat) ∉ [19] by decide) (show (2 : Nat) ∉ [19] by decide)
  have f71 := f49.kx (pd_kq.kx k59 f45) (show (6 : Nat) ∉ [19] by decide) (show (10 : Nat) ∉ [19] by decide) (show (0 : Nat) ∉ [19] by decide)
  have f72 := f50.kx (pd_kq.kx k59 f45) (show (11 : Nat) ∉ [19] by decide) (show (12 : Nat) ∉ [19] by decide) (show (0 : Nat) ∉ [19] by decide)
  have f73 := f51.kx (pd_kq.kx k59 f45) (show (13 : Nat) ∉ [19] by decide) (show (14 : Nat) ∉ [19] by decide) (show (0 : Nat) ∉ [19] by decide)
  have f74 := f52.kx (pd_kq.kx k59 f45) (show (15 : Nat) ∉ [19] by decide) (show (16 : Nat) ∉ [19] by decide) (show (17 : Nat) ∉ [19] by decide) (show (3 : Nat) ∉ [19] by decide) (show (4 : Nat) ∉ [19] by decide)
  have f75 := f53.kx (pd_kq.kx k59 f45) (show (0 : Nat) ∉ [19] by decide)
  have f76 := f54.kx (pd_kq.kx k59 f45) (show (0 : Nat) ∉ [19] by decide)
  have f77 := f55.kx (pd_kq.kx k59 f45) (show (0 : Nat) ∉ [19] by decide)
  have f78 : pd_Str h57 r17 t0 := ⟨_, _, f67, f69, gf41, gc42, gl43⟩
  have w : pd_w G s H locs (pd_up h57 q1 (0, .inr (4, [.ref r17, .int (nI (gr_cut t0).1), .ref st60]))) := w.tag X.2.2.2.2.2.2.2.2.2.1 0 f62 hz3
  obtain ⟨h79, u81⟩ : ∃ z, z = pd_up h57 q1 (0, .inr (4, [.ref r17, .int (nI (gr_cut t0).1), .ref st60])) := ⟨_, rfl⟩
  rw [← u81] at w
  have k80 : pd_kx [19] h57 h79 := by rw [u81]; exact pd_up_kx f62
  have f82 : h79 q1 = some (0, .inr (4, [.ref r17, .int (nI (gr_cut t0).1), .ref st60])) := by rw [u81]; exact pd_up_s _ _ _
  have f83 := k80 _ _ f65 (show (5 : Nat) ∉ [19] by decide)
  have f84 := k80 _ _ f66 (show (1 : Nat) ∉ [19] by decide)
  have f85 := k80 _ _ f67 (show (0 : Nat) ∉ [19] by decide)
  have f86 := k80 _ _ f68 (show (2 : Nat) ∉ [19] by decide)
  have f87 := k80 _ _ f69 (show (0 : Nat) ∉ [19] by decide)
  have f88 := k80 _ _ f63 (show (0 : Nat) ∉ [19] by decide)
  have f89 := f70.kx k80 (show (1 : Nat) ∉ [19] by decide) (show (2 : Nat) ∉ [19] by decide)
  have f90 := f71.kx k80 (show (6 : Nat) ∉ [19] by decide) (show (10 : Nat) ∉ [19] by decide) (show (0 : Nat) ∉ [19] by decide)
  have f91 := f72.kx k80 (show (11 : Nat) ∉ [19] by decide) (show (12 : Nat) ∉ [19] by decide) (show (0 : Nat) ∉ [19] by decide)
  have f92 := f73.kx k80 (show (13 : Nat) ∉ [19] by decide) (show (14 : Nat) ∉ [19] by decide) (show (0 : Nat) ∉ [19] by decide)
  have f93 := f74.kx k80 (show (15 : Nat) ∉ [19] by decide) (show (16 : Nat) ∉ [19] by decide) (show (17 : Nat) ∉ [19] by decide) (show (3 : Nat) ∉ [19] by decide) (show (4 : Nat) ∉ [19] by decide)
  have f94 := f75.kx k80 (show (0 : Nat) ∉ [19] by decide)
  have f95 := f76.kx k80 (show (0 : Nat) ∉ [19] by decide)
  have f96 := f77.kx k80 (show (0 : Nat) ∉ [19] by decide)
  have f97 := f78.kx k80 (show (0 : Nat) ∉ [19] by decide)
  have f98 : pd_Ln h79 q1 t0 := ⟨r17, st60, fA61, f82, f88, nu64, f97⟩
  refine lv_astore_n (lv' := [(1, .ref q1), (0, .ref x)]) hx hb d_p1m3_14 rfl hl (by decide) rfl (fun ls hl => ?_)
  refine lv_aload_n hx hb d_p1m3_15 rfl (lv_at hl 1 rfl) ?_
  refine pd_get X w f83 rfl 0 (by decide) mT_367 rfl rfl d_p1m3_16 ?_
  refine lv_iconst (v := nI 0) hx hb d_p1m3_19 (by decide) ?_
  refine pd_cVv (a := lb) (As := [.int (nI 0)]) (rest := []) X w f84 rfl (c_SB_setLength l G h79 (by assumption) (by assumption) (by assumption) (by assumption)) ok_SB_setLength ⟨mT_554, mT_555⟩ mT_553 ⟨by decide, by decide⟩ rfl hl.1 rfl (Nat.le_of_ble_eq_true rfl) d_p1m3_20 ⟨by decide, by decide⟩ (fun h100 H locs hp101 w => ?_)
  refine W.widen (k := 5) (n := 274) (by decide) (by decide) ?_
  obtain ⟨k103, f104⟩ := hp101
  have f105 := k103 _ _ f83 (show (5 : Nat) ∉ [1, 2] by decide)
  have f106 := k103 _ _ f85 (show (0 : Nat) ∉ [1, 2] by decide)
  have f107 := k103 _ _ f87 (show (0 : Nat) ∉ [1, 2] by decide)
  have f108 := k103 _ _ f88 (show (0 : Nat) ∉ [1, 2] by decide)
  have f109 := f90.kx k103 (show (6 : Nat) ∉ [1, 2] by decide) (show (10 : Nat) ∉ [1, 2] by decide) (show (0 : Nat) ∉ [1, 2] by decide)
  have f110 := f91.kx k103 (show (11 : Nat) ∉ [1, 2] by decide) (show (12 : Nat) ∉ [1, 2] by decide) (show (0 : Nat) ∉ [1, 2] by decide)
  have f111 := f92.kx k103 (show (13 : Nat) ∉ [1, 2] by decide) (show (14 : Nat) ∉ [1, 2] by decide) (show (0 : Nat) ∉ [1, 2] by decide)
  have f112 := f93.kx k103 (show (15 : Nat) ∉ [1, 2] by decide) (show (16 : Nat) ∉ [1, 2] by decide) (show (17 : Nat) ∉ [1, 2] by decide) (show (3 : Nat) ∉ [1, 2] by decide) (show (4 : Nat) ∉ [1, 2] by decide)
  have f113 := f94.kx k103 (show (0 : Nat) ∉ [1, 2] by decide)
  have f114 := f95.kx k103 (show (0 : Nat) ∉ [1, 2] by decide)
  have f115 := f96.kx k103 (show (0 : Nat) ∉ [1, 2] by decide)
  have f116 := f97.kx k103 (show (0 : Nat) ∉ [1, 2] by decide)
  have f117 := f98.kx k103 (show (0 : Nat) ∉ [1, 2] by decide)
  refine lv_aload_n hx hb d_p1m3_23 rfl (lv_at hl 0 rfl) ?_
  refine lv_iconst (v := nI 0) hx hb d_p1m3_24 (by decide) ?_
  obtain ⟨a121, st122, fA123, f124, f125, nu126, f127⟩ := id f117
  have hc128 := (gr_cut_ok t0).1
  obtain ⟨v129, g130, f131, f132, gf133, gc134, gl135⟩ := id f127
  refine pd_cV (a := q1) (As := [.int (nI 0)]) (rest := []) X w f124 rfl (c_Line_word l G h100 (by assumption) (by omega)) ok_Line_word ⟨mT_574, mT_575⟩ mT_573 ⟨by decide, by decide⟩ rfl hl.1 rfl (Nat.le_of_ble_eq_true rfl) d_p1m3_25 ⟨by decide, by decide⟩ (fun r118 h119 H locs hp120 w => ?_)
  refine W.widen (k := 7) (n := 338) (by decide) (by decide) ?_
  obtain ⟨k136, ds137, e138, f139⟩ := hp120
  have f147 := k136 _ _ f105 List.not_mem_nil
  have f148 := k136 _ _ f106 List.not_mem_nil
  have f149 := k136 _ _ f124 List.not_mem_nil
  have f150 := k136 _ _ f131 List.not_mem_nil
  have f151 := k136 _ _ f107 List.not_mem_nil
  have f152 := k136 _ _ f108 List.not_mem_nil
  have f153 := k136 _ _ f132 List.not_mem_nil
  have f154 := f109.kx k136 List.not_mem_nil List.not_mem_nil List.not_mem_nil
  have f155 := f110.kx k136 List.not_mem_nil List.not_mem_nil List.not_mem_nil
  have f156 := f111.kx k136 List.not_mem_nil List.not_mem_nil List.not_mem_nil
  have f157 := f112.kx k136 List.not_mem_nil List.not_mem_nil List.not_mem_nil List.not_mem_nil List.not_mem_nil
  have f158 := f113.kx k136 List.not_mem_nil
  have f159 := f114.kx k136 List.not_mem_nil
  have f160 := f115.kx k136 List.not_mem_nil
  have f161 := f116.kx k136 List.not_mem_nil
  have f162 := f117.kx k136 List.not_mem_nil
  have f163 := f104.kx k136 List.not_mem_nil List.not_mem_nil
  have f164 := f127.kx k136 List.not_mem_nil
  obtain ⟨v140, g141, f142, f143, gf144, gc145, gl146⟩ := id f139
  subst e138
  refine pd_cS (As := [.ref r118]) (rest := []) X w (c_Verb_of l G h119 (by assumption)) ok_Verb_of mT_608 mT_607 ⟨by decide, by decide⟩ rfl hl.1 rfl (Nat.le_of_ble_eq_true rfl) d_p1m3_28 ⟨by decide, by decide⟩ (fun r165 h166 H locs hp167 w => ?_)
  refine W.widen (k := 7) (n := 338) (by decide) (by decide) ?_
  obtain ⟨e168, rfl⟩ := hp167
  refine pd_ostore_n (lv' := [(2, va_rf r165), (1, .ref q1), (0, .ref x)]) hx hb d_p1m3_31 rfl hl (by decide) rfl (fun ls hl => ?_)
  refine pd_oload_n hx hb d_p1m3_32 rfl (lv_at hl 0 rfl) ?_
  rcases pd_om e168 with ⟨q169, q172⟩ | ⟨i171, q169, q172⟩
  · -- none
    refine pd_top (v' := .null) (by rw [q172]; rfl) ?_
    rw [q172] at hl
    have hl : lv_has ls 3 [(2, .null), (1, .ref q1), (0, .ref x)] := hl
    refine lv_ifnullN (tgt := 44) hx hb d_p1m3_33 (by decide) ?_
    refine lv_aload_n hx hb d_p1m3_44 rfl (lv_at hl 2 rfl) ?_
    refine lv_dup hx hb d_p1m3_45 rfl ?_
    refine pd_get X w f147 rfl 8 (by decide) mT_375 rfl rfl d_p1m3_46 ?_
    refine lv_iconst (v := nI 1) hx hb d_p1m3_49 (by decide) ?_
    refine pd_iadd hx hb d_p1m3_50 ?_
    refine pd_put (ty := .int) X w f147 hz_x rfl 8 (by decide) mT_375 rfl rfl (by decide +kernel) rfl rfl (Nat.le_of_ble_eq_true rfl) d_p1m3_51 (fun H locs w => ?_)
    have w : pd_w G s H locs (pd_up h119 x (5, .inr (0, [.ref lb, .ref cl, .ref me, .ref ru, .ref bk, .long sp, .int (nI an), .int (nI gn), .int (nI (sn + 1)), .int (nI dn)]))) := w
    obtain ⟨h174, u177⟩ : ∃ z, z = pd_up h119 x (5, .inr (0, [.ref lb, .ref cl, .ref me, .ref ru, .ref bk, .long sp, .int (nI an), .int (nI gn), .int (nI (sn + 1)), .int (nI dn)])) := ⟨_, rfl⟩
    rw [← u177] at w
    have k175 : pd_kq x h119 h174 := by rw [u177]; exact pd_up_kq
    have f176 : h174 x = some (5, .inr (0, [.ref lb, .ref cl, .ref me, .ref ru, .ref bk, .long sp, .int (nI an), .int (nI gn), .int (nI (sn + 1)), .int (nI dn)])) := by rw [u177]; exact pd_up_s _ _ _
    have f178 := k175 _ _ (pd_ne f148 f147 (by simp)) f148
    have f179 := k175 _ _ (pd_ne f149 f147 (by simp)) f149
    have f180 := k175 _ _ (pd_ne f150 f147 (by simp)) f150
    have f181 := k175 _ _ (pd_ne f142 f147 (by simp)) f142
    have f182 := k175 _ _ (pd_ne f151 f147 (by simp)) f151
    have f183 := k175 _ _ (pd_ne f152 f147 (by simp)) f152
    have f184 := k175 _ _ (pd_ne f153 f147 (by simp)) f153
    have f185 := k175 _ _ (pd_ne f143 f147 (by simp)) f143
    have f186 := f154.kx (pd_kq.kx k175 f147) (show (6 : Nat) ∉ [5] by decide) (show (10 : Nat) ∉ [5] by decide) (show (0 : Nat) ∉ [5] by decide)
    have f187 := f155.kx (pd_kq.kx k175 f147) (show (11 : Nat) ∉ [5] by decide) (show (12 : Nat) ∉ [5] by decide) (show (0 : Nat) ∉ [5] by decide)
    have f188 := f156.kx (pd_kq.kx k175 f147) (show (13 : Nat) ∉ [5] by decide) (show (14 : Nat) ∉ [5] by decide) (show (0 : Nat) ∉ [5] by decide)
    have f189 := f157.kx (pd_kq.kx k175 f147) (show (15 : Nat) ∉ [5] by decide) (show (16 : Nat) ∉ [5] by decide) (show (17 : Nat) ∉ [5] by decide) (show (3 : Nat) ∉ [5] by decide) (show (4 : Nat) ∉ [5] by decide)
    have f190 := f158.kx (pd_kq.kx k175 f147) (show (0 : Nat) ∉ [5] by decide)
    have f191 := f159.kx (pd_kq.kx k175 f147) (show (0 : Nat) ∉ [5] by decide)
    have f192 := f160.kx (pd_kq.kx k175 f147) (show (0 : Nat) ∉ [5] by decide)
    have f193 : pd_Str h174 r17 t0 := ⟨_, _, f178, f182, gf41, gc42, gl43⟩
    have f194 := f162.kx (pd_kq.kx k175 f147) (show (0 : Nat) ∉ [5] by decide)
    have f195 := f163.kx (pd_kq.kx k175 f147) (show (1 : Nat) ∉ [5] by decide) (show (2 : Nat) ∉ [5] by decide)
    have f196 : pd_Str h174 a121 t0 := ⟨_, _, f180, f184, gf133, gc134, gl135⟩
    have f197 : pd_Str h174 r118 (gr_w t0 0) := ⟨_, _, f181, f185, gf144, gc145, gl146⟩
    refine lv_iconst (v := -1) hx hb d_p1m3_54 (by decide) ?_
    have kt198 : pd_kx [19, 1, 2, 5] h h174 := by
      intro ya c9 ys0 n9
      have ys1 := k5 ya c9 ys0 List.not_mem_nil
      have ys2 := k33 ya c9 ys1 List.not_mem_nil
      have ys3 := k59 ya c9 (pd_nn ys0 hq2) ys2
      have ys4 := k80 ya c9 ys3 (fun z9 => n9 ((show ∀ t ∈ [19], t ∈ [19, 1, 2, 5] by simp) _ z9))
      have ys5 := k103 ya c9 ys4 (fun z9 => n9 ((show ∀ t ∈ [1, 2], t ∈ [19, 1, 2, 5] by simp) _ z9))
      have ys6 := k136 ya c9 ys5 List.not_mem_nil
      have ys7 := k175 ya c9 (pd_ne ys6 f147 (fun z9 => n9 (by rw [z9]; simp))) ys6
      exact ys7
    have hg : gr_line t0 n R k M u U T kp nx sp an gn sn dn = (-1, [], (n, R), (k, M), (u, U), (T, kp, nx), sp, an, gn, sn + 1, dn) := by unfold gr_line; simp only [q169]
    exact pd_iret (v := (-1)) X w ⟨by rw [hg], pd_kx.mono (us := [1, 2, 3, 4, 5, 6, 7, 8, 9, 10, 11, 12, 13, 14, 15, 16, 17, 18, 19]) (kt198) (by simp), A, B, C, (by rw [hg]; exact ⟨lb, cl, me, ru, bk, f176, hz_x, f195, f186, f187, f188, f189, (Nat.zero_le _)⟩)⟩ (by decide) (by decide) d_p1m3_55
  · -- some
    refine pd_top (v' := .ref (G.2.2.2 (10 + i171))) (by rw [q172]; rfl) ?_
    rw [q172] at hl
    have hl : lv_has ls 3 [(2, .ref (G.2.2.2 (10 + i171))), (1, .ref q1), (0, .ref x)] := hl
    have i171lt := gr_verb_lt q169
    refine lv_ifnull hx hb d_p1m3_33 ?_
    refine lv_aload_n hx hb d_p1m3_36 rfl (lv_at hl 1 rfl) ?_
    refine lv_aload_n hx hb d_p1m3_37 rfl (lv_at hl 0 rfl) ?_
    refine pd_cS (As := [.ref q1, .ref (G.2.2.2 (10 + i171))]) (rest := []) X w (c_Grammar_isAsSaid l G h119 (by assumption) (by omega)) ok_Grammar_isAsSaid mT_621 mT_620 ⟨by decide, by decide⟩ rfl hl.1 rfl (Nat.le_of_ble_eq_true rfl) d_p1m3_38 ⟨by decide, by decide⟩ (fun r200 h201 H locs hp202 w => ?_)
    refine W.widen (k := 137) (n := 4498) (by decide) (by decide) ?_
    obtain ⟨e203, k204⟩ := hp202
    have f205 := k204 _ _ f147 List.not_mem_nil
    have f206 := k204 _ _ f148 List.not_mem_nil
    have f207 := k204 _ _ f149 List.not_mem_nil
    have f208 := k204 _ _ f150 List.not_mem_nil
    have f209 := k204 _ _ f142 List.not_mem_nil
    have f210 := k204 _ _ f151 List.not_mem_nil
    have f211 := k204 _ _ f152 List.not_mem_nil
    have f212 := k204 _ _ f153 List.not_mem_nil
    have f213 := k204 _ _ f143 List.not_mem_nil
    have f214 := f154.kx k204 List.not_mem_nil List.not_mem_nil List.not_mem_nil
    have f215 := f155.kx k204 List.not_mem_nil List.not_mem_nil List.not_mem_nil
    have f216 := f156.kx k204 List.not_mem_nil List.not_mem_nil List.not_mem_nil
    have f217 := f157.kx k204 List.not_mem_nil List.not_mem_nil List.not_mem_nil List.not_mem_nil List.not_mem_nil
    have f218 := f158.kx k204 List.not_mem_nil
    have f219 := f159.kx k204 List.not_mem_nil
    have f220 := f160.kx k204 List.not_mem_nil
    have f221 := f161.kx k204 List.not_mem_nil
    have f222 := f162.kx k204 List.not_mem_nil
    have f223 := f163.kx k204 List.not_mem_nil List.not_mem_nil
    have f224 := f164.kx k204 List.not_mem_nil
    have f225 := f139.kx k204 List.not_mem_nil
    refine pd_bne (tgt := 56) hx hb d_p1m3_41 (by decide) (fun q226 => ?_) (fun q226 => ?_)
    · -- taken: 56
      refine pd_gets X w (List.mem_of_getElem? (i := 3) rfl) mT_766 d_p1m3_56 ?_
      have f227 := pd_swm X w
      refine lv_aload_n hx hb d_p1m3_59 rfl (lv_at hl 0 rfl) ?_
      refine pd_cord (i := i171) (rest := [.ref (G.2.2.2 2)]) X w (by omega) (c_Enum_ordinal l G h201 (i := i171) (by omega)) ok_Enum_ordinal rfl ⟨mT_629, X.2.2.2.2.2.1 _ mT_628, mT_626⟩ mT_767 ⟨by decide, by decide⟩ hl.1 (Nat.le_of_ble_eq_true rfl) d_p1m3_60 ⟨by decide, by decide⟩ (fun r228 h229 H locs hp230 w => ?_)
      refine W.widen (k := 137) (n := 4498) (by decide) (by decide) ?_
      obtain ⟨rfl, rfl⟩ := hp230
      refine pd_iald X w f227 (by omega) (by omega) d_p1m3_63 ?_
      refine pd_top (v' := .int (nI (pd_map i171))) rfl ?_
      have hmp := pd_map_lt i171
      rcases (show pd_map i171 = 1 ∨ pd_map i171 = 2 ∨ pd_map i171 = 3 ∨ pd_map i171 = 4 ∨ pd_map i171 = 5 ∨ pd_map i171 = 6 ∨ pd_map i171 = 7 ∨ pd_map i171 = 8 ∨ pd_map i171 < 1 ∨ 8 < pd_map i171 by omega) with z231 | z231 | z231 | z231 | z231 | z231 | z231 | z231 | z231 | z231
      · -- case 1: 112
        refine lv_tableIn (tgt := 112) hx hb d_p1m3_64 (by rw [z231]; decide) (by rw [z231]; decide) (by rw [z231]; rfl) (by decide) ?_
        refine lv_aload_n hx hb d_p1m3_112 rfl (lv_at hl 2 rfl) ?_
        refine lv_aload_n hx hb d_p1m3_113 rfl (lv_at hl 1 rfl) ?_
        refine lv_iconst (v := nI 0) hx hb d_p1m3_114 (by decide) ?_
        refine pd_cV (a := x) (As := [.ref q1, .int (nI 0)]) (rest := []) X w f205 rfl (c_PolicyDesk_declareClass l G h201 (A := A) (B := B) (C := C) (t0 := []) (n := n) (R := R) (k := k) (M := M) (u := u) (U := U) (T := T) (kp := kp) (nx := nx) (sp := sp) (an := an) (gn := gn) (sn := sn) (dn := dn) (bi := false) (⟨lb, cl, me, ru, bk, f205, hz_x, f223, f214, f215, f216, f217, (Nat.zero_le _)⟩) (by assumption)) ok_PolicyDesk_declareClass ⟨mT_770, sT_3⟩ mT_768 ⟨by decide, by decide⟩ rfl hl.1 rfl (Nat.le_of_ble_eq_true rfl) d_p1m3_115 ⟨by decide, by decide⟩ (fun r232 h233 H locs hp234 w => ?_)
        refine W.widen (k := 177) (n := 5250) (by decide) (by decide) ?_
        obtain ⟨e235, k236, A237, f238⟩ := hp234
        have f239 := k236 _ _ f206 (show (0 : Nat) ∉ [6, 7, 8, 9, 10] by decide)
        have f240 := k236 _ _ f207 (show (0 : Nat) ∉ [6, 7, 8, 9, 10] by decide)
        have f241 := k236 _ _ f208 (show (0 : Nat) ∉ [6, 7, 8, 9, 10] by decide)
        have f242 := k236 _ _ f209 (show (0 : Nat) ∉ [6, 7, 8, 9, 10] by decide)
        have f243 := k236 _ _ f210 (show (0 : Nat) ∉ [6, 7, 8, 9, 10] by decide)
        have f244 := k236 _ _ f211 (show (0 : Nat) ∉ [6, 7, 8, 9, 10] by decide)
        have f245 := k236 _ _ f212 (show (0 : Nat) ∉ [6, 7, 8, 9, 10] by decide)
        have f246 := k236 _ _ f213 (show (0 : Nat) ∉ [6, 7, 8, 9, 10] by decide)
        have f247 := k236 _ _ f227 (show (0 : Nat) ∉ [6, 7, 8, 9, 10] by decide)
        have f248 := f215.kx k236 (show (11 : Nat) ∉ [6, 7, 8, 9, 10] by decide) (show (12 : Nat) ∉ [6, 7, 8, 9, 10] by decide) (show (0 : Nat) ∉ [6, 7, 8, 9, 10] by decide)
        have f249 := f216.kx k236 (show (13 : Nat) ∉ [6, 7, 8, 9, 10] by decide) (show (14 : Nat) ∉ [6, 7, 8, 9, 10] by decide) (show (0 : Nat) ∉ [6, 7, 8, 9, 10] by decide)
        have f250 := f217.kx k236 (show (15 : Nat) ∉ [6, 7, 8, 9, 10] by decide) (show (16 : Nat) ∉ [6, 7, 8, 9, 10] by decide) (show (17 : Nat) ∉ [6, 7, 8, 9, 10] by decide) (show (3 : Nat) ∉ [6, 7, 8, 9, 10] by decide) (show (4 : Nat) ∉ [6, 7, 8, 9, 10] by decide)
        have f251 := f218.kx k236 (show (0 : Nat) ∉ [6, 7, 8, 9, 10] by decide)
        have f252 := f219.kx k236 (show (0 : Nat) ∉ [6, 7, 8, 9, 10] by decide)
        have f253 := f220.kx k236 (show (0 : Nat) ∉ [6, 7, 8, 9, 10] by decide)
        have f254 := f221.kx k236 (show (0 : Nat) ∉ [6, 7, 8, 9, 10] by decide)
        have f255 := f222.kx k236 (show (0 : Nat) ∉ [6, 7, 8, 9, 10] by decide)
        have f256 := f223.kx k236 (show (1 : Nat) ∉ [6, 7, 8, 9, 10] by decide) (show (2 : Nat) ∉ [6, 7, 8, 9, 10] by decide)
        have f257 := f224.kx k236 (show (0 : Nat) ∉ [6, 7, 8, 9, 10] by decide)
        have f258 := f225.kx k236 (show (0 : Nat) ∉ [6, 7, 8, 9, 10] by decide)
        have kt259 : pd_kx [19, 1, 2, 6, 7, 8, 9, 10] h h233 := by
          intro ya c9 ys0 n9
          have ys1 := k5 ya c9 ys0 List.not_mem_nil
          have ys2 := k33 ya c9 ys1 List.not_mem_nil
          have ys3 := k59 ya c9 (pd_nn ys0 hq2) ys2
          have ys4 := k80 ya c9 ys3 (fun z9 => n9 ((show ∀ t ∈ [19], t ∈ [19, 1, 2, 6, 7, 8, 9, 10] by simp) _ z9))
          have ys5 := k103 ya c9 ys4 (fun z9 => n9 ((show ∀ t ∈ [1, 2], t ∈ [19, 1, 2, 6, 7, 8, 9, 10] by simp) _ z9))
          have ys6 := k136 ya c9 ys5 List.not_mem_nil
          have ys7 := k204 ya c9 ys6 List.not_mem_nil
          have ys8 := k236 ya c9 ys7 (fun z9 => n9 ((show ∀ t ∈ [6, 7, 8, 9, 10], t ∈ [19, 1, 2, 6, 7, 8, 9, 10] by simp) _ z9))
          exact ys8
        have hg : gr_line t0 n R k M u U T kp nx sp an gn sn dn = gr_do t0 n R k M u U T kp nx sp an gn sn dn i171 := by unfold gr_line; simp only [q169]; rw [if_pos (e203.symm.trans q226)]
        exact pd_iret (v := r232) X w ⟨by rw [hg]; unfold gr_do; rw [if_pos z231]; exact e235, pd_kx.mono (us := [1, 2, 3, 4, 5, 6, 7, 8, 9, 10, 11, 12, 13, 14, 15, 16, 17, 18, 19]) (kt259) (by simp), A237, B, C, (by rw [hg]; unfold gr_do; rw [if_pos z231]; exact f238)⟩ (by decide) (by decide) d_p1m3_118
      · -- case 2: 119
        refine lv_tableIn (tgt := 119) hx hb d_p1m3_64 (by rw [z231]; decide) (by rw [z231]; decide) (by rw [z231]; rfl) (by decide) ?_
        refine lv_aload_n hx hb d_p1m3_119 rfl (lv_at hl 2 rfl) ?_
        refine lv_aload_n hx hb d_p1m3_120 rfl (lv_at hl 1 rfl) ?_
        refine lv_iconst (v := nI 1) hx hb d_p1m3_121 (by decide) ?_
        refine pd_cV (a := x) (As := [.ref q1, .int (nI 1)]) (rest := []) X w f205 rfl (c_PolicyDesk_declareClass l G h201 (A := A) (B := B) (C := C) (t0 := []) (n := n) (R := R) (k := k) (M := M) (u := u) (U := U) (T := T) (kp := kp) (nx := nx) (sp := sp) (an := an) (gn := gn) (sn := sn) (dn := dn) (bi := true) (⟨lb, cl, me, ru, bk, f205, hz_x, f223, f214, f215, f216, f217, (Nat.zero_le _)⟩) (by assumption)) ok_PolicyDesk_declareClass ⟨mT_770, sT_3⟩ mT_768 ⟨by decide, by decide⟩ rfl hl.1 rfl (Nat.le_of_ble_eq_true rfl) d_p1m3_122 ⟨by decide, by decide⟩ (fun r260 h261 H locs hp262 w => ?_)
        refine W.widen (k := 177) (n := 5250) (by decide) (by decide) ?_
        obtain ⟨e263, k264, A265, f266⟩ := hp262
        have f267 := k264 _ _ f206 (show (0 : Nat) ∉ [6, 7, 8, 9, 10] by decide)
        have f268 := k264 _ _ f207 (show (0 : Nat) ∉ [6, 7, 8, 9, 10] by decide)
        have f269 := k264 _ _ f208 (show (0 : Nat) ∉ [6, 7, 8, 9, 10] by decide)
        have f270 := k264 _ _ f209 (show (0 : Nat) ∉ [6, 7, 8, 9, 10] by decide)
        have f271 := k264 _ _ f210 (show (0 : Nat) ∉ [6, 7, 8, 9, 10] by decide)
        have f272 := k264 _ _ f211 (show (0 : Nat) ∉ [6, 7, 8, 9, 10] by decide)
        have f273 := k264 _ _ f212 (show (0 : Nat) ∉ [6, 7, 8, 9, 10] by decide)
        have f274 := k264 _ _ f213 (show (0 : Nat) ∉ [6, 7, 8, 9, 10] by decide)
        have f275 := k264 _ _ f227 (show (0 : Nat) ∉ [6, 7, 8, 9, 10] by decide)
        have f276 := f215.kx k264 (show (11 : Nat) ∉ [6, 7, 8, 9, 10] by decide) (show (12 : Nat) ∉ [6, 7, 8, 9, 10] by decide) (show (0 : Nat) ∉ [6, 7, 8, 9, 10] by decide)
        have f277 := f216.kx k264 (show (13 : Nat) ∉ [6, 7, 8, 9, 10] by decide) (show (14 : Nat) ∉ [6, 7, 8, 9, 10] by decide) (show (0 : Nat) ∉ [6, 7, 8, 9, 10] by decide)
        have f278 := f217.kx k264 (show (15 : Nat) ∉ [6, 7, 8, 9, 10] by decide) (show (16 : Nat) ∉ [6, 7, 8, 9, 10] by decide) (show (17 : Nat) ∉ [6, 7, 8, 9, 10] by decide) (show (3 : Nat) ∉ [6, 7, 8, 9, 10] by decide) (show (4 : Nat) ∉ [6, 7, 8, 9, 10] by decide)
        have f279 := f218.kx k264 (show (0 : Nat) ∉ [6, 7, 8, 9, 10] by decide)
        have f280 := f219.kx k264 (show (0 : Nat) ∉ [6, 7, 8, 9, 10] by decide)
        have f281 := f220.kx k264 (show (0 : Nat) ∉ [6, 7, 8, 9, 10] by decide)
        have f282 := f221.kx k264 (show (0 : Nat) ∉ [6, 7, 8, 9, 10] by decide)
        have f283 := f222.kx k264 (show (0 : Nat) ∉ [6, 7, 8, 9, 10] by decide)
        have f284 := f223.kx k264 (show (1 : Nat) ∉ [6, 7, 8, 9, 10] by decide) (show (2 : Nat) ∉ [6, 7, 8, 9, 10] by decide)
        have f285 := f224.kx k264 (show (0 : Nat) ∉ [6, 7, 8, 9, 10] by decide)
        have f286 := f225.kx k264 (show (0 : Nat) ∉ [6, 7, 8, 9, 10] by decide)
        have kt287 : pd_kx [19, 1, 2, 6, 7, 8, 9, 10] h h261 := by
          intro ya c9 ys0 n9
          have ys1 := k5 ya c9 ys0 List.not_mem_nil
          have ys2 := k33 ya c9 ys1 List.not_mem_nil
          have ys3 := k59 ya c9 (pd_nn ys0 hq2) ys2
          have ys4 := k80 ya c9 ys3 (fun z9 => n9 ((show ∀ t ∈ [19], t ∈ [19, 1, 2, 6, 7, 8, 9, 10] by simp) _ z9))
          have ys5 := k103 ya c9 ys4 (fun z9 => n9 ((show ∀ t ∈ [1, 2], t ∈ [19, 1, 2, 6, 7, 8, 9, 10] by simp) _ z9))
          have ys6 := k136 ya c9 ys5 List.not_mem_nil
          have ys7 := k204 ya c9 ys6 List.not_mem_nil
          have ys8 := k264 ya c9 ys7 (fun z9 => n9 ((show ∀ t ∈ [6, 7, 8, 9, 10], t ∈ [19, 1, 2, 6, 7, 8, 9, 10] by simp) _ z9))
          exact ys8
        have hg : gr_line t0 n R k M u U T kp nx sp an gn sn dn = gr_do t0 n R k M u U T kp nx sp an gn sn dn i171 := by unfold gr_line; simp only [q169]; rw [if_pos (e203.symm.trans q226)]
        exact pd_iret (v := r260) X w ⟨by rw [hg]; unfold gr_do; rw [if_neg (by omega), if_pos z231]; exact e263, pd_kx.mono (us := [1, 2, 3, 4, 5, 6, 7, 8, 9, 10, 11, 12, 13, 14, 15, 16, 17, 18, 19]) (kt287) (by simp), A265, B, C, (by rw [hg]; unfold gr_do; rw [if_neg (by omega), if_pos z231]; exact f266)⟩ (by decide) (by decide) d_p1m3_125
      · -- case 3: 126
        refine lv_tableIn (tgt := 126) hx hb d_p1m3_64 (by rw [z231]; decide) (by rw [z231]; decide) (by rw [z231]; rfl) (by decide) ?_
        refine lv_aload_n hx hb d_p1m3_126 rfl (lv_at hl 2 rfl) ?_
        refine lv_aload_n hx hb d_p1m3_127 rfl (lv_at hl 1 rfl) ?_
        refine pd_cV (a := x) (As := [.ref q1]) (rest := []) X w f205 rfl (c_PolicyDesk_declareMember l G h201 (A := A) (B := B) (C := C) (t0 := []) (n := n) (R := R) (k := k) (M := M) (u := u) (U := U) (T := T) (kp := kp) (nx := nx) (sp := sp) (an := an) (gn := gn) (sn := sn) (dn := dn) (⟨lb, cl, me, ru, bk, f205, hz_x, f223, f214, f215, f216, f217, (Nat.zero_le _)⟩) (by assumption)) ok_PolicyDesk_declareMember ⟨mT_786, sT_4⟩ mT_784 ⟨by decide, by decide⟩ rfl hl.1 rfl (Nat.le_of_ble_eq_true rfl) d_p1m3_128 ⟨by decide, by decide⟩ (fun r288 h289 H locs hp290 w => ?_)
        refine W.widen (k := 150) (n := 4888) (by decide) (by decide) ?_
        obtain ⟨e291, k292, B293, f294⟩ := hp290
        have f295 := k292 _ _ f206 (show (0 : Nat) ∉ [9, 11, 12] by decide)
        have f296 := k292 _ _ f207 (show (0 : Nat) ∉ [9, 11, 12] by decide)
        have f297 := k292 _ _ f208 (show (0 : Nat) ∉ [9, 11, 12] by decide)
        have f298 := k292 _ _ f209 (show (0 : Nat) ∉ [9, 11, 12] by decide)
        have f299 := k292 _ _ f210 (show (0 : Nat) ∉ [9, 11, 12] by decide)
        have f300 := k292 _ _ f211 (show (0 : Nat) ∉ [9, 11, 12] by decide)
        have f301 := k292 _ _ f212 (show (0 : Nat) ∉ [9, 11, 12] by decide)
        have f302 := k292 _ _ f213 (show (0 : Nat) ∉ [9, 11, 12] by decide)
        have f303 := k292 _ _ f227 (show (0 : Nat) ∉ [9, 11, 12] by decide)
        have f304 := f214.kx k292 (show (6 : Nat) ∉ [9, 11, 12] by decide) (show (10 : Nat) ∉ [9, 11, 12] by decide) (show (0 : Nat) ∉ [9, 11, 12] by decide)
        have f305 := f216.kx k292 (show (13 : Nat) ∉ [9, 11, 12] by decide) (show (14 : Nat) ∉ [9, 11, 12] by decide) (show (0 : Nat) ∉ [9, 11, 12] by decide)
        have f306 := f217.kx k292 (show (15 : Nat) ∉ [9, 11, 12] by decide) (show (16 : Nat) ∉ [9, 11, 12] by decide) (show (17 : Nat) ∉ [9, 11, 12] by decide) (show (3 : Nat) ∉ [9, 11, 12] by decide) (show (4 : Nat) ∉ [9, 11, 12] by decide)
        have f307 := f218.kx k292 (show (0 : Nat) ∉ [9, 11, 12] by decide)
        have f308 := f219.kx k292 (show (0 : Nat) ∉ [9, 11, 12] by decide)
        have f309 := f220.kx k292 (show (0 : Nat) ∉ [9, 11, 12] by decide)
        have f310 := f221.kx k292 (show (0 : Nat) ∉ [9, 11, 12] by decide)
        have f311 := f222.kx k292 (show (0 : Nat) ∉ [9, 11, 12] by decide)
        have f312 := f223.kx k292 (show (1 : Nat) ∉ [9, 11, 12] by decide) (show (2 : Nat) ∉ [9, 11, 12] by decide)
        have f313 := f224.kx k292 (show (0 : Nat) ∉ [9, 11, 12] by decide)
        have f314 := f225.kx k292 (show (0 : Nat) ∉ [9, 11, 12] by decide)
        have kt315 : pd_kx [19, 1, 2, 9, 11, 12] h h289 := by
          intro ya c9 ys0 n9
          have ys1 := k5 ya c9 ys0 List.not_mem_nil
          have ys2 := k33 ya c9 ys1 List.not_mem_nil
          have ys3 := k59 ya c9 (pd_nn ys0 hq2) ys2
          have ys4 := k80 ya c9 ys3 (fun z9 => n9 ((show ∀ t ∈ [19], t ∈ [19, 1, 2, 9, 11, 12] by simp) _ z9))
          have ys5 := k103 ya c9 ys4 (fun z9 => n9 ((show ∀ t ∈ [1, 2], t ∈ [19, 1, 2, 9, 11, 12] by simp) _ z9))
          have ys6 := k136 ya c9 ys5 List.not_mem_nil
          have ys7 := k204 ya c9 ys6 List.not_mem_nil
          have ys8 := k292 ya c9 ys7 (fun z9 => n9 ((show ∀ t ∈ [9, 11, 12], t ∈ [19, 1, 2, 9, 11, 12] by simp) _ z9))
          exact ys8
        have hg : gr_line t0 n R k M u U T kp nx sp an gn sn dn = gr_do t0 n R k M u U T kp nx sp an gn sn dn i171 := by unfold gr_line; simp only [q169]; rw [if_pos (e203.symm.trans q226)]
        exact pd_iret (v := r288) X w ⟨by rw [hg]; unfold gr_do; rw [if_neg (by omega), if_neg (by omega), if_pos (by omega)]; exact e291, pd_kx.mono (us := [1, 2, 3, 4, 5, 6, 7, 8, 9, 10, 11, 12, 13, 14, 15, 16, 17, 18, 19]) (kt315) (by simp), A, B293, C, (by rw [hg]; unfold gr_do; rw [if_neg (by omega), if_neg (by omega), if_pos (by omega)]; exact f294)⟩ (by decide) (by decide) d_p1m3_131
      · -- case 4: 126
        refine lv_tableIn (tgt := 126) hx hb d_p1m3_64 (by rw [z231]; decide) (by rw [z231]; decide) (by rw [z231]; rfl) (by decide) ?_
        refine lv_aload_n hx hb d_p1m3_126 rfl (lv_at hl 2 rfl) ?_
        refine lv_aload_n hx hb d_p1m3_127 rfl (lv_at hl 1 rfl) ?_
        refine pd_cV (a := x) (As := [.ref q1]) (rest := []) X w f205 rfl (c_PolicyDesk_declareMember l G h201 (A := A) (B := B) (C := C) (t0 := []) (n := n) (R := R) (k := k) (M := M) (u := u) (U := U) (T := T) (kp := kp) (nx := nx) (sp := sp) (an := an) (gn := gn) (sn := sn) (dn := dn) (⟨lb, cl, me, ru, bk, f205, hz_x, f223, f214, f215, f216, f217, (Nat.zero_le _)⟩) (by assumption)) ok_PolicyDesk_declareMember ⟨mT_786, sT_4⟩ mT_784 ⟨by decide, by decide⟩ rfl hl.1 rfl (Nat.le_of_ble_eq_true rfl) d_p1m3_128 ⟨by decide, by decide⟩ (fun r316 h317 H locs hp318 w => ?_)
        refine W.widen (k := 150) (n := 4888) (by decide) (by decide) ?_
        obtain ⟨e319, k320, B321, f322⟩ := hp318
        have f323 := k320 _ _ f206 (show (0 : Nat) ∉ [9, 11, 12] by decide)
        have f324 := k320 _ _ f207 (show (0 : Nat) ∉ [9, 11, 12] by decide)
        have f325 := k320 _ _ f208 (show (0 : Nat) ∉ [9, 11, 12] by decide)
        have f326 := k320 _ _ f209 (show (0 : Nat) ∉ [9, 11, 12] by decide)
        have f327 := k320 _ _ f210 (show (0 : Nat) ∉ [9, 11, 12] by decide)
        have f328 := k320 _ _ f211 (show (0 : Nat) ∉ [9, 11, 12] by decide)
        have f329 := k320 _ _ f212 (show (0 : Nat) ∉ [9, 11, 12] by decide)
        have f330 := k320 _ _ f213 (show (0 : Nat) ∉ [9, 11, 12] by decide)
        have f331 := k320 _ _ f227 (show (0 : Nat) ∉ [9, 11, 12] by decide)
        have f332 := f214.kx k320 (show (6 : Nat) ∉ [9, 11, 12] by decide) (show (10 : Nat) ∉ [9, 11, 12] by decide) (show (0 : Nat) ∉ [9, 11, 12] by decide)
        have f333 := f216.kx k320 (show (13 : Nat) ∉ [9, 11, 12] by decide) (show (14 : Nat) ∉ [9, 11, 12] by decide) (show (0 : Nat) ∉ [9, 11, 12] by decide)
        have f334 := f217.kx k320 (show (15 : Nat) ∉ [9, 11, 12] by decide) (show (16 : Nat) ∉ [9, 11, 12] by decide) (show (17 : Nat) ∉ [9, 11, 12] by decide) (show (3 : Nat) ∉ [9, 11, 12] by decide) (show (4 : Nat) ∉ [9, 11, 12] by decide)
        have f335 := f218.kx k320 (show (0 : Nat) ∉ [9, 11, 12] by decide)
        have f336 := f219.kx k320 (show (0 : Nat) ∉ [9, 11, 12] by decide)
        have f337 := f220.kx k320 (show (0 : Nat) ∉ [9, 11, 12] by decide)
        have f338 := f221.kx k320 (show (0 : Nat) ∉ [9, 11, 12] by decide)
        have f339 := f222.kx k320 (show (0 : Nat) ∉ [9, 11, 12] by decide)
        have f340 := f223.kx k320 (show (1 : Nat) ∉ [9, 11, 12] by decide) (show (2 : Nat) ∉ [9, 11, 12] by decide)
        have f341 := f224.kx k320 (show (0 : Nat) ∉ [9, 11, 12] by decide)
        have f342 := f225.kx k320 (show (0 : Nat) ∉ [9, 11, 12] by decide)
        have kt343 : pd_kx [19, 1, 2, 9, 11, 12] h h317 := by
          intro ya c9 ys0 n9
          have ys1 := k5 ya c9 ys0 List.not_mem_nil
          have ys2 := k33 ya c9 ys1 List.not_mem_nil
          have ys3 := k59 ya c9 (pd_nn ys0 hq2) ys2
          have ys4 := k80 ya c9 ys3 (fun z9 => n9 ((show ∀ t ∈ [19], t ∈ [19, 1, 2, 9, 11, 12] by simp) _ z9))
          have ys5 := k103 ya c9 ys4 (fun z9 => n9 ((show ∀ t ∈ [1, 2], t ∈ [19, 1, 2, 9, 11, 12] by simp) _ z9))
          have ys6 := k136 ya c9 ys5 List.not_mem_nil
          have ys7 := k204 ya c9 ys6 List.not_mem_nil
          have ys8 := k320 ya c9 ys7 (fun z9 => n9 ((show ∀ t ∈ [9, 11, 12], t ∈ [19, 1, 2, 9, 11, 12] by simp) _ z9))
          exact ys8
        have hg : gr_line t0 n R k M u U T kp nx sp an gn sn dn = gr_do t0 n R k M u U T kp nx sp an gn sn dn i171 := by unfold gr_line; simp only [q169]; rw [if_pos (e203.symm.trans q226)]
        exact pd_iret (v := r316) X w ⟨by rw [hg]; unfold gr_do; rw [if_neg (by omega), if_neg (by omega), if_pos (by omega)]; exact e319, pd_kx.mono (us := [1, 2, 3, 4, 5, 6, 7, 8, 9, 10, 11, 12, 13, 14, 15, 16, 17, 18, 19]) (kt343) (by simp), A, B321, C, (by rw [hg]; unfold gr_do; rw [if_neg (by omega), if_neg (by omega), if_pos (by omega)]; exact f322)⟩ (by decide) (by decide) d_p1m3_131
      · -- case 5: 132
        refine lv_tableIn (tgt := 132) hx hb d_p1m3_64 (by rw [z231]; decide) (by rw [z231]; decide) (by rw [z231]; rfl) (by decide) ?_
        refine lv_aload_n hx hb d_p1m3_132 rfl (lv_at hl 2 rfl) ?_
        refine lv_aload_n hx hb d_p1m3_133 rfl (lv_at hl 1 rfl) ?_
        refine lv_aload_n hx hb d_p1m3_134 rfl (lv_at hl 0 rfl) ?_
        refine pd_cV (a := x) (As := [.ref q1, .ref (G.2.2.2 (10 + i171))]) (rest := []) X w f205 rfl (c_PolicyDesk_declareRule l G h201 (A := A) (B := B) (C := C) (t0 := []) (n := n) (R := R) (k := k) (M := M) (u := u) (U := U) (T := T) (kp := kp) (nx := nx) (sp := sp) (an := an) (gn := gn) (sn := sn) (dn := dn) (⟨lb, cl, me, ru, bk, f205, hz_x, f223, f214, f215, f216, f217, (Nat.zero_le _)⟩) (by assumption) (by omega) (e203.symm.trans q226)) ok_PolicyDesk_declareRule ⟨mT_842, sT_5⟩ mT_840 ⟨by decide, by decide⟩ rfl hl.1 rfl (Nat.le_of_ble_eq_true rfl) d_p1m3_135 ⟨by decide, by decide⟩ (fun r344 h345 H locs hp346 w => ?_)
        refine W.widen (k := 157) (n := 5083) (by decide) (by decide) ?_
        obtain ⟨e347, k348, C349, f350⟩ := hp346
        have f351 := k348 _ _ f206 (show (0 : Nat) ∉ [9, 13, 14, 18] by decide)
        have f352 := k348 _ _ f207 (show (0 : Nat) ∉ [9, 13, 14, 18] by decide)
        have f353 := k348 _ _ f208 (show (0 : Nat) ∉ [9, 13, 14, 18] by decide)
        have f354 := k348 _ _ f209 (show (0 : Nat) ∉ [9, 13, 14, 18] by decide)
        have f355 := k348 _ _ f210 (show (0 : Nat) ∉ [9, 13, 14, 18] by decide)
        have f356 := k348 _ _ f211 (show (0 : Nat) ∉ [9, 13, 14, 18] by decide)
        have f357 := k348 _ _ f212 (show (0 : Nat) ∉ [9, 13, 14, 18] by decide)
        have f358 := k348 _ _ f213 (show (0 : Nat) ∉ [9, 13, 14, 18] by decide)
        have f359 := k348 _ _ f227 (show (0 : Nat) ∉ [9, 13, 14, 18] by decide)
        have f360 := f214.kx k348 (show (6 : Nat) ∉ [9, 13, 14, 18] by decide) (show (10 : Nat) ∉ [9, 13, 14, 18] by decide) (show (0 : Nat) ∉ [9, 13, 14, 18] by decide)
        have f361 := f215.kx k348 (show (11 : Nat) ∉ [9, 13, 14, 18] by decide) (show (12 : Nat) ∉ [9, 13, 14, 18] by decide) (show (0 : Nat) ∉ [9, 13, 14, 18] by decide)
        have f362 := f217.kx k348 (show (15 : Nat) ∉ [9, 13, 14, 18] by decide) (show (16 : Nat) ∉ [9, 13, 14, 18] by decide) (show (17 : Nat) ∉ [9, 13, 14, 18] by decide) (show (3 : Nat) ∉ [9, 13, 14, 18] by decide) (show (4 : Nat) ∉ [9, 13, 14, 18] by decide)
        have f363 := f218.kx k348 (show (0 : Nat) ∉ [9, 13, 14, 18] by decide)
        have f364 := f219.kx k348 (show (0 : Nat) ∉ [9, 13, 14, 18] by decide)
        have f365 := f220.kx k348 (show (0 : Nat) ∉ [9, 13, 14, 18] by decide)
        have f366 := f221.kx k348 (show (0 : Nat) ∉ [9, 13, 14, 18] by decide)
        have f367 := f222.kx k348 (show (0 : Nat) ∉ [9, 13, 14, 18] by decide)
        have f368 := f223.kx k348 (show (1 : Nat) ∉ [9, 13, 14, 18] by decide) (show (2 : Nat) ∉ [9, 13, 14, 18] by decide)
        have f369 := f224.kx k348 (show (0 : Nat) ∉ [9, 13, 14, 18] by decide)
        have f370 := f225.kx k348 (show (0 : Nat) ∉ [9, 13, 14, 18] by decide)
        have kt371 : pd_kx [19, 1, 2, 9, 13, 14, 18] h h345 := by
          intro ya c9 ys0 n9
          have ys1 := k5 ya c9 ys0 List.not_mem_nil
          have ys2 := k33 ya c9 ys1 List.not_mem_nil
          have ys3 := k59 ya c9 (pd_nn ys0 hq2) ys2
          have ys4 := k80 ya c9 ys3 (fun z9 => n9 ((show ∀ t ∈ [19], t ∈ [19, 1, 2, 9, 13, 14, 18] by simp) _ z9))
          have ys5 := k103 ya c9 ys4 (fun z9 => n9 ((show ∀ t ∈ [1, 2], t ∈ [19, 1, 2, 9, 13, 14, 18] by simp) _ z9))
          have ys6 := k136 ya c9 ys5 List.not_mem_nil
          have ys7 := k204 ya c9 ys6 List.not_mem_nil
          have ys8 := k348 ya c9 ys7 (fun z9 => n9 ((show ∀ t ∈ [9, 13, 14, 18], t ∈ [19, 1, 2, 9, 13, 14, 18] by simp) _ z9))
          exact ys8
        have hg : gr_line t0 n R k M u U T kp nx sp an gn sn dn = gr_do t0 n R k M u U T kp nx sp an gn sn dn i171 := by unfold gr_line; simp only [q169]; rw [if_pos (e203.symm.trans q226)]
        exact pd_iret (v := r344) X w ⟨by rw [hg]; unfold gr_do; rw [if_neg (by omega), if_neg (by omega), if_neg (by omega), if_pos (by omega)]; exact e347, pd_kx.mono (us := [1, 2, 3, 4, 5, 6, 7, 8, 9, 10, 11, 12, 13, 14, 15, 16, 17, 18, 19]) (kt371) (by simp), A, B, C349, (by rw [hg]; unfold gr_do; rw [if_neg (by omega), if_neg (by omega), if_neg (by omega), if_pos (by omega)]; exact f350)⟩ (by decide) (by decide) d_p1m3_138
      · -- case 6: 132
        refine lv_tableIn (tgt := 132) hx hb d_p1m3_64 (by rw [z231]; decide) (by rw [z231]; decide) (by rw [z231]; rfl) (by decide) ?_
        refine lv_aload_n hx hb d_p1m3_132 rfl (lv_at hl 2 rfl) ?_
        refine lv_aload_n hx hb d_p1m3_133 rfl (lv_at hl 1 rfl) ?_
        refine lv_aload_n hx hb d_p1m3_134 rfl (lv_at hl 0 rfl) ?_
        refine pd_cV (a := x) (As := [.ref q1, .ref (G.2.2.2 (10 + i171))]) (rest := []) X w f205 rfl (c_PolicyDesk_declareRule l G h201 (A := A) (B := B) (C := C) (t0 := []) (n := n) (R := R) (k := k) (M := M) (u := u) (U := U) (T := T) (kp := kp) (nx := nx) (sp := sp) (an := an) (gn := gn) (sn := sn) (dn := dn) (⟨lb, cl, me, ru, bk, f205, hz_x, f223, f214, f215, f216, f217, (Nat.zero_le _)⟩) (by assumption) (by omega) (e203.symm.trans q226)) ok_PolicyDesk_declareRule ⟨mT_842, sT_5⟩ mT_840 ⟨by decide, by decide⟩ rfl hl.1 rfl (Nat.le_of_ble_eq_true rfl) d_p1m3_135 ⟨by decide, by decide⟩ (fun r372 h373 H locs hp374 w => ?_)
        refine W.widen (k := 157) (n := 5083) (by decide) (by decide) ?_
        obtain ⟨e375, k376, C377, f378⟩ := hp374
        have f379 := k376 _ _ f206 (show (0 : Nat) ∉ [9, 13, 14, 18] by decide)
        have f380 := k376 _ _ f207 (show (0 : Nat) ∉ [9, 13, 14, 18] by decide)
        have f381 := k376 _ _ f208 (show (0 : Nat) ∉ [9, 13, 14, 18] by decide)
        have f382 := k376 _ _ f209 (show (0 : Nat) ∉ [9, 13, 14, 18] by decide)
        have f383 := k376 _ _ f210 (show (0 : Nat) ∉ [9, 13, 14, 18] by decide)
        have f384 := k376 _ _ f211 (show (0 : Nat) ∉ [9, 13, 14, 18] by decide)
        have f385 := k376 _ _ f212 (show (0 : Nat) ∉ [9, 13, 14, 18] by decide)
        have f386 := k376 _ _ f213 (show (0 : Nat) ∉ [9, 13, 14, 18] by decide)
        have f387 := k376 _ _ f227 (show (0 : Nat) ∉ [9, 13, 14, 18] by decide)
        have f388 := f214.kx k376 (show (6 : Nat) ∉ [9, 13, 14, 18] by decide) (show (10 : Nat) ∉ [9, 13, 14, 18] by decide) (show (0 : Nat) ∉ [9, 13, 14, 18] by decide)
        have f389 := f215.kx k376 (show (11 : Nat) ∉ [9, 13, 14, 18] by decide) (show (12 : Nat) ∉ [9, 13, 14, 18] by decide) (show (0 : Nat) ∉ [9, 13, 14, 18] by decide)
        have f390 := f217.kx k376 (show (15 : Nat) ∉ [9, 13, 14, 18] by decide) (show (16 : Nat) ∉ [9, 13, 14, 18] by decide) (show (17 : Nat) ∉ [9, 13, 14, 18] by decide) (show (3 : Nat) ∉ [9, 13, 14, 18] by decide) (show (4 : Nat) ∉ [9, 13, 14, 18] by decide)
        have f391 := f218.kx k376 (show (0 : Nat) ∉ [9, 13, 14, 18] by decide)
        have f392 := f219.kx k376 (show (0 : Nat) ∉ [9, 13, 14, 18] by decide)
        have f393 := f220.kx k376 (show (0 : Nat) ∉ [9, 13, 14, 18] by decide)
        have f394 := f221.kx k376 (show (0 : Nat) ∉ [9, 13, 14, 18] by decide)
        have f395 := f222.kx k376 (show (0 : Nat) ∉ [9, 13, 14, 18] by decide)
        have f396 := f223.kx k376 (show (1 : Nat) ∉ [9, 13, 14, 18] by decide) (show (2 : Nat) ∉ [9, 13, 14, 18] by decide)
        have f397 := f224.kx k376 (show (0 : Nat) ∉ [9, 13, 14, 18] by decide)
        have f398 := f225.kx k376 (show (0 : Nat) ∉ [9, 13, 14, 18] by decide)
        have kt399 : pd_kx [19, 1, 2, 9, 13, 14, 18] h h373 := by
          intro ya c9 ys0 n9
          have ys1 := k5 ya c9 ys0 List.not_mem_nil
          have ys2 := k33 ya c9 ys1 List.not_mem_nil
          have ys3 := k59 ya c9 (pd_nn ys0 hq2) ys2
          have ys4 := k80 ya c9 ys3 (fun z9 => n9 ((show ∀ t ∈ [19], t ∈ [19, 1, 2, 9, 13, 14, 18] by simp) _ z9))
          have ys5 := k103 ya c9 ys4 (fun z9 => n9 ((show ∀ t ∈ [1, 2], t ∈ [19, 1, 2, 9, 13, 14, 18] by simp) _ z9))
          have ys6 := k136 ya c9 ys5 List.not_mem_nil
          have ys7 := k204 ya c9 ys6 List.not_mem_nil
          have ys8 := k376 ya c9 ys7 (fun z9 => n9 ((show ∀ t ∈ [9, 13, 14, 18], t ∈ [19, 1, 2, 9, 13, 14, 18] by simp) _ z9))
          exact ys8
        have hg : gr_line t0 n R k M u U T kp nx sp an gn sn dn = gr_do t0 n R k M u U T kp nx sp an gn sn dn i171 := by unfold gr_line; simp only [q169]; rw [if_pos (e203.symm.trans q226)]
        exact pd_iret (v := r372) X w ⟨by rw [hg]; unfold gr_do; rw [if_neg (by omega), if_neg (by omega), if_neg (by omega), if_pos (by omega)]; exact e375, pd_kx.mono (us := [1, 2, 3, 4, 5, 6, 7, 8, 9, 10, 11, 12, 13, 14, 15, 16, 17, 18, 19]) (kt399) (by simp), A, B, C377, (by rw [hg]; unfold gr_do; rw [if_neg (by omega), if_neg (by omega), if_neg (by omega), if_pos (by omega)]; exact f378)⟩ (by decide) (by decide) d_p1m3_138
      · -- case 7: 132
        refine lv_tableIn (tgt := 132) hx hb d_p1m3_64 (by rw [z231]; decide) (by rw [z231]; decide) (by rw [z231]; rfl) (by decide) ?_
        refine lv_aload_n hx hb d_p1m3_132 rfl (lv_at hl 2 rfl) ?_
        refine lv_aload_n hx hb d_p1m3_133 rfl (lv_at hl 1 rfl) ?_
        refine lv_aload_n hx hb d_p1m3_134 rfl (lv_at hl 0 rfl) ?_
        refine pd_cV (a := x) (As := [.ref q1, .ref (G.2.2.2 (10 + i171))]) (rest := []) X w f205 rfl (c_PolicyDesk_declareRule l G h201 (A := A) (B := B) (C := C) (t0 := []) (n := n) (R := R) (k := k) (M := M) (u := u) (U := U) (T := T) (kp := kp) (nx := nx) (sp := sp) (an := an) (gn := gn) (sn := sn) (dn := dn) (⟨lb, cl, me, ru, bk, f205, hz_x, f223, f214, f215, f216, f217, (Nat.zero_le _)⟩) (by assumption) (by omega) (e203.symm.trans q226)) ok_PolicyDesk_declareRule ⟨mT_842, sT_5⟩ mT_840 ⟨by decide, by decide⟩ rfl hl.1 rfl (Nat.le_of_ble_eq_true rfl) d_p1m3_135 ⟨by decide, by decide⟩ (fun r400 h401 H locs hp402 w => ?_)
        refine W.widen (k := 157) (n := 5083) (by decide) (by decide) ?_
        obtain ⟨e403, k404, C405, f406⟩ := hp402
        have f407 := k404 _ _ f206 (show (0 : Nat) ∉ [9, 13, 14, 18] by decide)
        have f408 := k404 _ _ f207 (show (0 : Nat) ∉ [9, 13, 14, 18] by decide)
        have f409 := k404 _ _ f208 (show (0 : Nat) ∉ [9, 13, 14, 18] by decide)
        have f410 := k404 _ _ f209 (show (0 : Nat) ∉ [9, 13, 14, 18] by decide)
        have f411 := k404 _ _ f210 (show (0 : Nat) ∉ [9, 13, 14, 18] by decide)
        have f412 := k404 _ _ f211 (show (0 : Nat) ∉ [9, 13, 14, 18] by decide)
        have f413 := k404 _ _ f212 (show (0 : Nat) ∉ [9, 13, 14, 18] by decide)
        have f414 := k404 _ _ f213 (show (0 : Nat) ∉ [9, 13, 14, 18] by decide)
        have f415 := k404 _ _ f227 (show (0 : Nat) ∉ [9, 13, 14, 18] by decide)
        have f416 := f214.kx k404 (show (6 : Nat) ∉ [9, 13, 14, 18] by decide) (show (10 : Nat) ∉ [9, 13, 14, 18] by decide) (show (0 : Nat) ∉ [9, 13, 14, 18] by decide)
        have f417 := f215.kx k404 (show (11 : Nat) ∉ [9, 13, 14, 18] by decide) (show (12 : Nat) ∉ [9, 13, 14, 18] by decide) (show (0 : Nat) ∉ [9, 13, 14, 18] by decide)
        have f418 := f217.kx k404 (show (15 : Nat) ∉ [9, 13, 14, 18] by decide) (show (16 : Nat) ∉ [9, 13, 14, 18] by decide) (show (17 : Nat) ∉ [9, 13, 14, 18] by decide) (show (3 : Nat) ∉ [9, 13, 14, 18] by decide) (show (4 : Nat) ∉ [9, 13, 14, 18] by decide)
        have f419 := f218.kx k404 (show (0 : Nat) ∉ [9, 13, 14, 18] by decide)
        have f420 := f219.kx k404 (show (0 : Nat) ∉ [9, 13, 14, 18] by decide)
        have f421 := f220.kx k404 (show (0 : Nat) ∉ [9, 13, 14, 18] by decide)
        have f422 := f221.kx k404 (show (0 : Nat) ∉ [9, 13, 14, 18] by decide)
        have f423 := f222.kx k404 (show (0 : Nat) ∉ [9, 13, 14, 18] by decide)
        have f424 := f223.kx k404 (show (1 : Nat) ∉ [9, 13, 14, 18] by decide) (show (2 : Nat) ∉ [9, 13, 14, 18] by decide)
        have f425 := f224.kx k404 (show (0 : Nat) ∉ [9, 13, 14, 18] by decide)
        have f426 := f225.kx k404 (show (0 : Nat) ∉ [9, 13, 14, 18] by decide)
        have kt427 : pd_kx [19, 1, 2, 9, 13, 14, 18] h h401 := by
          intro ya c9 ys0 n9
          have ys1 := k5 ya c9 ys0 List.not_mem_nil
          have ys2 := k33 ya c9 ys1 List.not_mem_nil
          have ys3 := k59 ya c9 (pd_nn ys0 hq2) ys2
          have ys4 := k80 ya c9 ys3 (fun z9 => n9 ((show ∀ t ∈ [19], t ∈ [19, 1, 2, 9, 13, 14, 18] by simp) _ z9))
          have ys5 := k103 ya c9 ys4 (fun z9 => n9 ((show ∀ t ∈ [1, 2], t ∈ [19, 1, 2, 9, 13, 14, 18] by simp) _ z9))
          have ys6 := k136 ya c9 ys5 List.not_mem_nil
          have ys7 := k204 ya c9 ys6 List.not_mem_nil
          have ys8 := k404 ya c9 ys7 (fun z9 => n9 ((show ∀ t ∈ [9, 13, 14, 18], t ∈ [19, 1, 2, 9, 13, 14, 18] by simp) _ z9))
          exact ys8
        have hg : gr_line t0 n R k M u U T kp nx sp an gn sn dn = gr_do t0 n R k M u U T kp nx sp an gn sn dn i171 := by unfold gr_line; simp only [q169]; rw [if_pos (e203.symm.trans q226)]
        exact pd_iret (v := r400) X w ⟨by rw [hg]; unfold gr_do; rw [if_neg (by omega), if_neg (by omega), if_neg (by omega), if_pos (by omega)]; exact e403, pd_kx.mono (us := [1, 2, 3, 4, 5, 6, 7, 8, 9, 10, 11, 12, 13, 14, 15, 16, 17, 18, 19]) (kt427) (by simp), A, B, C405, (by rw [hg]; unfold gr_do; rw [if_neg (by omega), if_neg (by omega), if_neg (by omega), if_pos (by omega)]; exact f406)⟩ (by decide) (by decide) d_p1m3_138
      · -- case 8: 132
        refine lv_tableIn (tgt := 132) hx hb d_p1m3_64 (by rw [z231]; decide) (by rw [z231]; decide) (by rw [z231]; rfl) (by decide) ?_
        refine lv_aload_n hx hb d_p1m3_132 rfl (lv_at hl 2 rfl) ?_
        refine lv_aload_n hx hb d_p1m3_133 rfl (lv_at hl 1 rfl) ?_
        refine lv_aload_n hx hb d_p1m3_134 rfl (lv_at hl 0 rfl) ?_
        refine pd_cV (a := x) (As := [.ref q1, .ref (G.2.2.2 (10 + i171))]) (rest := []) X w f205 rfl (c_PolicyDesk_declareRule l G h201 (A := A) (B := B) (C := C) (t0 := []) (n := n) (R := R) (k := k) (M := M) (u := u) (U := U) (T := T) (kp := kp) (nx := nx) (sp := sp) (an := an) (gn := gn) (sn := sn) (dn := dn) (⟨lb, cl, me, ru, bk, f205, hz_x, f223, f214, f215, f216, f217, (Nat.zero_le _)⟩) (by assumption) (by omega) (e203.symm.trans q226)) ok_PolicyDesk_declareRule ⟨mT_842, sT_5⟩ mT_840 ⟨by decide, by decide⟩ rfl hl.1 rfl (Nat.le_of_ble_eq_true rfl) d_p1m3_135 ⟨by decide, by decide⟩ (fun r428 h429 H locs hp430 w => ?_)
        refine W.widen (k := 157) (n := 5083) (by decide) (by decide) ?_
        obtain ⟨e431, k432, C433, f434⟩ := hp430
        have f435 := k432 _ _ f206 (show (0 : Nat) ∉ [9, 13, 14, 18] by decide)
        have f436 := k432 _ _ f207 (show (0 : Nat) ∉ [9, 13, 14, 18] by decide)
        have f437 := k432 _ _ f208 (show (0 : Nat) ∉ [9, 13, 14, 18] by decide)
        have f438 := k432 _ _ f209 (show (0 : Nat) ∉ [9, 13, 14, 18] by decide)
        have f439 := k432 _ _ f210 (show (0 : Nat) ∉ [9, 13, 14, 18] by decide)
        have f440 := k432 _ _ f211 (show (0 : Nat) ∉ [9, 13, 14, 18] by decide)
        have f441 := k432 _ _ f212 (show (0 : Nat) ∉ [9, 13, 14, 18] by decide)
        have f442 := k432 _ _ f213 (show (0 : Nat) ∉ [9, 13, 14, 18] by decide)
        have f443 := k432 _ _ f227 (show (0 : Nat) ∉ [9, 13, 14, 18] by decide)
        have f444 := f214.kx k432 (show (6 : Nat) ∉ [9, 13, 14, 18] by decide) (show (10 : Nat) ∉ [9, 13, 14, 18] by decide) (show (0 : Nat) ∉ [9, 13, 14, 18] by decide)
        have f445 := f215.kx k432 (show (11 : Nat) ∉ [9, 13, 14, 18] by decide) (show (12 : Nat) ∉ [9, 13, 14, 18] by decide) (show (0 : Nat) ∉ [9, 13, 14, 18] by decide)
        have f446 := f217.kx k432 (show (15 : Nat) ∉ [9, 13, 14, 18] by decide) (show (16 : Nat) ∉ [9, 13, 14, 18] by decide) (show (17 : Nat) ∉ [9, 13, 14, 18] by decide) (show (3 : Nat) ∉ [9, 13, 14, 18] by decide) (show (4 : Nat) ∉ [9, 13, 14, 18] by decide)
        have f447 := f218.kx k432 (show (0 : Nat) ∉ [9, 13, 14, 18] by decide)
        have f448 := f219.kx k432 (show (0 : Nat) ∉ [9, 13, 14, 18] by decide)
        have f449 := f220.kx k432 (show (0 : Nat) ∉ [9, 13, 14, 18] by decide)
        have f450 := f221.kx k432 (show (0 : Nat) ∉ [9, 13, 14, 18] by decide)
        have f451 := f222.kx k432 (show (0 : Nat) ∉ [9, 13, 14, 18] by decide)
        have f452 := f223.kx k432 (show (1 : Nat) ∉ [9, 13, 14, 18] by decide) (show (2 : Nat) ∉ [9, 13, 14, 18] by decide)
        have f453 := f224.kx k432 (show (0 : Nat) ∉ [9, 13, 14, 18] by decide)
        have f454 := f225.kx k432 (show (0 : Nat) ∉ [9, 13, 14, 18] by decide)
        have kt455 : pd_kx [19, 1, 2, 9, 13, 14, 18] h h429 := by
          intro ya c9 ys0 n9
          have ys1 := k5 ya c9 ys0 List.not_mem_nil
          have ys2 := k33 ya c9 ys1 List.not_mem_nil
          have ys3 := k59 ya c9 (pd_nn ys0 hq2) ys2
          have ys4 := k80 ya c9 ys3 (fun z9 => n9 ((show ∀ t ∈ [19], t ∈ [19, 1, 2, 9, 13, 14, 18] by simp) _ z9))
          have ys5 := k103 ya c9 ys4 (fun z9 => n9 ((show ∀ t ∈ [1, 2], t ∈ [19, 1, 2, 9, 13, 14, 18] by simp) _ z9))
          have ys6 := k136 ya c9 ys5 List.not_mem_nil
          have ys7 := k204 ya c9 ys6 List.not_mem_nil
          have ys8 := k432 ya c9 ys7 (fun z9 => n9 ((show ∀ t ∈ [9, 13, 14, 18], t ∈ [19, 1, 2, 9, 13, 14, 18] by simp) _ z9))
          exact ys8
        have hg : gr_line t0 n R k M u U T kp nx sp an gn sn dn = gr_do t0 n R k M u U T kp nx sp an gn sn dn i171 := by unfold gr_line; simp only [q169]; rw [if_pos (e203.symm.trans q226)]
        exact pd_iret (v := r428) X w ⟨by rw [hg]; unfold gr_do; rw [if_neg (by omega), if_neg (by omega), if_neg (by omega), if_pos (by omega)]; exact e431, pd_kx.mono (us := [1, 2, 3, 4, 5, 6, 7, 8, 9, 10, 11, 12, 13, 14, 15, 16, 17, 18, 19]) (kt455) (by simp), A, B, C433, (by rw [hg]; unfold gr_do; rw [if_neg (by omega), if_neg (by omega), if_neg (by omega), if_pos (by omega)]; exact f434)⟩ (by decide) (by decide) d_p1m3_138
      · -- default: 139
        refine lv_tableOut (tgt := 139) hx hb d_p1m3_64 (Or.inl (by rw [nI_toInt (by omega)]; omega)) (by decide) ?_
        refine lv_aload_n hx hb d_p1m3_139 rfl (lv_at hl 2 rfl) ?_
        refine lv_aload_n hx hb d_p1m3_140 rfl (lv_at hl 1 rfl) ?_
        refine lv_aload_n hx hb d_p1m3_141 rfl (lv_at hl 0 rfl) ?_
        refine pd_cV (a := x) (As := [.ref q1, .ref (G.2.2.2 (10 + i171))]) (rest := []) X w f205 rfl (c_PolicyDesk_ask l G h201 (A := A) (B := B) (C := C) (t0 := []) (n := n) (R := R) (k := k) (M := M) (u := u) (U := U) (T := T) (kp := kp) (nx := nx) (sp := sp) (an := an) (gn := gn) (sn := sn) (dn := dn) (⟨lb, cl, me, ru, bk, f205, hz_x, f223, f214, f215, f216, f217, (Nat.zero_le _)⟩) (by assumption) (by omega) (by omega)) ok_PolicyDesk_ask ⟨mT_922, sT_7⟩ mT_920 ⟨by decide, by decide⟩ rfl hl.1 rfl (Nat.le_of_ble_eq_true rfl) d_p1m3_142 ⟨by decide, by decide⟩ (fun r456 h457 H locs hp458 w => ?_)
        refine W.widen (k := 207) (n := 6418) (by decide) (by decide) ?_
        obtain ⟨e459, k460, f461⟩ := hp458
        have f462 := k460 _ _ f206 (show (0 : Nat) ∉ [3, 4, 5, 15, 16, 17] by decide)
        have f463 := k460 _ _ f207 (show (0 : Nat) ∉ [3, 4, 5, 15, 16, 17] by decide)
        have f464 := k460 _ _ f208 (show (0 : Nat) ∉ [3, 4, 5, 15, 16, 17] by decide)
        have f465 := k460 _ _ f209 (show (0 : Nat) ∉ [3, 4, 5, 15, 16, 17] by decide)
        have f466 := k460 _ _ f210 (show (0 : Nat) ∉ [3, 4, 5, 15, 16, 17] by decide)
        have f467 := k460 _ _ f211 (show (0 : Nat) ∉ [3, 4, 5, 15, 16, 17] by decide)
        have f468 := k460 _ _ f212 (show (0 : Nat) ∉ [3, 4, 5, 15, 16, 17] by decide)
        have f469 := k460 _ _ f213 (show (0 : Nat) ∉ [3, 4, 5, 15, 16, 17] by decide)
        have f470 := k460 _ _ f227 (show (0 : Nat) ∉ [3, 4, 5, 15, 16, 17] by decide)
        have f471 := f214.kx k460 (show (6 : Nat) ∉ [3, 4, 5, 15, 16, 17] by decide) (show (10 : Nat) ∉ [3, 4, 5, 15, 16, 17] by decide) (show (0 : Nat) ∉ [3, 4, 5, 15, 16, 17] by decide)
        have f472 := f215.kx k460 (show (11 : Nat) ∉ [3, 4, 5, 15, 16, 17] by decide) (show (12 : Nat) ∉ [3, 4, 5, 15, 16, 17] by decide) (show (0 : Nat) ∉ [3, 4, 5, 15, 16, 17] by decide)
        have f473 := f216.kx k460 (show (13 : Nat) ∉ [3, 4, 5, 15, 16, 17] by decide) (show (14 : Nat) ∉ [3, 4, 5, 15, 16, 17] by decide) (show (0 : Nat) ∉ [3, 4, 5, 15, 16, 17] by decide)
        have f474 := f218.kx k460 (show (0 : Nat) ∉ [3, 4, 5, 15, 16, 17] by decide)
        have f475 := f219.kx k460 (show (0 : Nat) ∉ [3, 4, 5, 15, 16, 17] by decide)
        have f476 := f220.kx k460 (show (0 : Nat) ∉ [3, 4, 5, 15, 16, 17] by decide)
        have f477 := f221.kx k460 (show (0 : Nat) ∉ [3, 4, 5, 15, 16, 17] by decide)
        have f478 := f222.kx k460 (show (0 : Nat) ∉ [3, 4, 5, 15, 16, 17] by decide)
        have f479 := f223.kx k460 (show (1 : Nat) ∉ [3, 4, 5, 15, 16, 17] by decide) (show (2 : Nat) ∉ [3, 4, 5, 15, 16, 17] by decide)
        have f480 := f224.kx k460 (show (0 : Nat) ∉ [3, 4, 5, 15, 16, 17] by decide)
        have f481 := f225.kx k460 (show (0 : Nat) ∉ [3, 4, 5, 15, 16, 17] by decide)
        have kt482 : pd_kx [19, 1, 2, 3, 4, 5, 15, 16, 17] h h457 := by
          intro ya c9 ys0 n9
          have ys1 := k5 ya c9 ys0 List.not_mem_nil
          have ys2 := k33 ya c9 ys1 List.not_mem_nil
          have ys3 := k59 ya c9 (pd_nn ys0 hq2) ys2
          have ys4 := k80 ya c9 ys3 (fun z9 => n9 ((show ∀ t ∈ [19], t ∈ [19, 1, 2, 3, 4, 5, 15, 16, 17] by simp) _ z9))
          have ys5 := k103 ya c9 ys4 (fun z9 => n9 ((show ∀ t ∈ [1, 2], t ∈ [19, 1, 2, 3, 4, 5, 15, 16, 17] by simp) _ z9))
          have ys6 := k136 ya c9 ys5 List.not_mem_nil
          have ys7 := k204 ya c9 ys6 List.not_mem_nil
          have ys8 := k460 ya c9 ys7 (fun z9 => n9 ((show ∀ t ∈ [3, 4, 5, 15, 16, 17], t ∈ [19, 1, 2, 3, 4, 5, 15, 16, 17] by simp) _ z9))
          exact ys8
        have hg : gr_line t0 n R k M u U T kp nx sp an gn sn dn = gr_do t0 n R k M u U T kp nx sp an gn sn dn i171 := by unfold gr_line; simp only [q169]; rw [if_pos (e203.symm.trans q226)]
        exact pd_iret (v := r456) X w ⟨by rw [hg]; unfold gr_do; rw [if_neg (by omega), if_neg (by omega), if_neg (by omega), if_neg (by omega)]; exact e459, pd_kx.mono (us := [1, 2, 3, 4, 5, 6, 7, 8, 9, 10, 11, 12, 13, 14, 15, 16, 17, 18, 19]) (kt482) (by simp), A, B, C, (by rw [hg]; unfold gr_do; rw [if_neg (by omega), if_neg (by omega), if_neg (by omega), if_neg (by omega)]; exact f461)⟩ (by decide) (by decide) d_p1m3_145
      · -- default: 139
        refine lv_tableOut (tgt := 139) hx hb d_p1m3_64 (Or.inr (by rw [nI_toInt (by omega)]; omega)) (by decide) ?_
        refine lv_aload_n hx hb d_p1m3_139 rfl (lv_at hl 2 rfl) ?_
        refine lv_aload_n hx hb d_p1m3_140 rfl (lv_at hl 1 rfl) ?_
        refine lv_aload_n hx hb d_p1m3_141 rfl (lv_at hl 0 rfl) ?_
        refine pd_cV (a := x) (As := [.ref q1, .ref (G.2.2.2 (10 + i171))]) (rest := []) X w f205 rfl (c_PolicyDesk_ask l G h201 (A := A) (B := B) (C := C) (t0 := []) (n := n) (R := R) (k := k) (M := M) (u := u) (U := U) (T := T) (kp := kp) (nx := nx) (sp := sp) (an := an) (gn := gn) (sn := sn) (dn := dn) (⟨lb, cl, me, ru, bk, f205, hz_x, f223, f214, f215, f216, f217, (Nat.zero_le _)⟩) (by assumption) (by omega) (by omega)) ok_PolicyDesk_ask ⟨mT_922, sT_7⟩ mT_920 ⟨by decide, by decide⟩ rfl hl.1 rfl (Nat.le_of_ble_eq_true rfl) d_p1m3_142 ⟨by decide, by decide⟩ (fun r483 h484 H locs hp485 w => ?_)
        refine W.widen (k := 207) (n := 6418) (by decide) (by decide) ?_
        obtain ⟨e486, k487, f488⟩ := hp485
        have f489 := k487 _ _ f206 (show (0 : Nat) ∉ [3, 4, 5, 15, 16, 17] by decide)
        have f490 := k487 _ _ f207 (show (0 : Nat) ∉ [3, 4, 5, 15, 16, 17] by decide)
        have f491 := k487 _ _ f208 (show (0 : Nat) ∉ [3, 4, 5, 15, 16, 17] by decide)
        have f492 := k487 _ _ f209 (show (0 : Nat) ∉ [3, 4, 5, 15, 16, 17] by decide)
        have f493 := k487 _ _ f210 (show (0 : Nat) ∉ [3, 4, 5, 15, 16, 17] by decide)
        have f494 := k487 _ _ f211 (show (0 : Nat) ∉ [3, 4, 5, 15, 16, 17] by decide)
        have f495 := k487 _ _ f212 (show (0 : Nat) ∉ [3, 4, 5, 15, 16, 17] by decide)
        have f496 := k487 _ _ f213 (show (0 : Nat) ∉ [3, 4, 5, 15, 16, 17] by decide)
        have f497 := k487 _ _ f227 (show (0 : Nat) ∉ [3, 4, 5, 15, 16, 17] by decide)
        have f498 := f214.kx k487 (show (6 : Nat) ∉ [3, 4, 5, 15, 16, 17] by decide) (show (10 : Nat) ∉ [3, 4, 5, 15, 16, 17] by decide) (show (0 : Nat) ∉ [3, 4, 5, 15, 16, 17] by decide)
        have f499 := f215.kx k487 (show (11 : Nat) ∉ [3, 4, 5, 15, 16, 17] by decide) (show (12 : Nat) ∉ [3, 4, 5, 15, 16, 17] by decide) (show (0 : Nat) ∉ [3, 4, 5, 15, 16, 17] by decide)
        have f500 := f216.kx k487 (show (13 : Nat) ∉ [3, 4, 5, 15, 16, 17] by decide) (show (14 : Nat) ∉ [3, 4, 5, 15, 16, 17] by decide) (show (0 : Nat) ∉ [3, 4, 5, 15, 16, 17] by decide)
        have f501 := f218.kx k487 (show (0 : Nat) ∉ [3, 4, 5, 15, 16, 17] by decide)
        have f502 := f219.kx k487 (show (0 : Nat) ∉ [3, 4, 5, 15, 16, 17] by decide)
        have f503 := f220.kx k487 (show (0 : Nat) ∉ [3, 4, 5, 15, 16, 17] by decide)
        have f504 := f221.kx k487 (show (0 : Nat) ∉ [3, 4, 5, 15, 16, 17] by decide)
        have f505 := f222.kx k487 (show (0 : Nat) ∉ [3, 4, 5, 15, 16, 17] by decide)
        have f506 := f223.kx k487 (show (1 : Nat) ∉ [3, 4, 5, 15, 16, 17] by decide) (show (2 : Nat) ∉ [3, 4, 5, 15, 16, 17] by decide)
        have f507 := f224.kx k487 (show (0 : Nat) ∉ [3, 4, 5, 15, 16, 17] by decide)
        have f508 := f225.kx k487 (show (0 : Nat) ∉ [3, 4, 5, 15, 16, 17] by decide)
        have kt509 : pd_kx [19, 1, 2, 3, 4, 5, 15, 16, 17] h h484 := by
          intro ya c9 ys0 n9
          have ys1 := k5 ya c9 ys0 List.not_mem_nil
          have ys2 := k33 ya c9 ys1 List.not_mem_nil
          have ys3 := k59 ya c9 (pd_nn ys0 hq2) ys2
          have ys4 := k80 ya c9 ys3 (fun z9 => n9 ((show ∀ t ∈ [19], t ∈ [19, 1, 2, 3, 4, 5, 15, 16, 17] by simp) _ z9))
          have ys5 := k103 ya c9 ys4 (fun z9 => n9 ((show ∀ t ∈ [1, 2], t ∈ [19, 1, 2, 3, 4, 5, 15, 16, 17] by simp) _ z9))
          have ys6 := k136 ya c9 ys5 List.not_mem_nil
          have ys7 := k204 ya c9 ys6 List.not_mem_nil
          have ys8 := k487 ya c9 ys7 (fun z9 => n9 ((show ∀ t ∈ [3, 4, 5, 15, 16, 17], t ∈ [19, 1, 2, 3, 4, 5, 15, 16, 17] by simp) _ z9))
          exact ys8
        have hg : gr_line t0 n R k M u U T kp nx sp an gn sn dn = gr_do t0 n R k M u U T kp nx sp an gn sn dn i171 := by unfold gr_line; simp only [q169]; rw [if_pos (e203.symm.trans q226)]
        exact pd_iret (v := r483) X w ⟨by rw [hg]; unfold gr_do; rw [if_neg (by omega), if_neg (by omega), if_neg (by omega), if_neg (by omega)]; exact e486, pd_kx.mono (us := [1, 2, 3, 4, 5, 6, 7, 8, 9, 10, 11, 12, 13, 14, 15, 16, 17, 18, 19]) (kt509) (by simp), A, B, C, (by rw [hg]; unfold gr_do; rw [if_neg (by omega), if_neg (by omega), if_neg (by omega), if_neg (by omega)]; exact f488)⟩ (by decide) (by decide) d_p1m3_145
    · -- not taken: 44
      refine lv_aload_n hx hb d_p1m3_44 rfl (lv_at hl 2 rfl) ?_
      refine lv_dup hx hb d_p1m3_45 rfl ?_
      refine pd_get X w f205 rfl 8 (by decide) mT_375 rfl rfl d_p1m3_46 ?_
      refine lv_iconst (v := nI 1) hx hb d_p1m3_49 (by decide) ?_
      refine pd_iadd hx hb d_p1m3_50 ?_
      refine pd_put (ty := .int) X w f205 hz_x rfl 8 (by decide) mT_375 rfl rfl (by decide +kernel) rfl rfl (Nat.le_of_ble_eq_true rfl) d_p1m3_51 (fun H locs w => ?_)
      have w : pd_w G s H locs (pd_up h201 x (5, .inr (0, [.ref lb, .ref cl, .ref me, .ref ru, .ref bk, .long sp, .int (nI an), .int (nI gn), .int (nI (sn + 1)), .int (nI dn)]))) := w
      obtain ⟨h510, u513⟩ : ∃ z, z = pd_up h201 x (5, .inr (0, [.ref lb, .ref cl, .ref me, .ref ru, .ref bk, .long sp, .int (nI an), .int (nI gn), .int (nI (sn + 1)), .int (nI dn)])) := ⟨_, rfl⟩
      rw [← u513] at w
      have k511 : pd_kq x h201 h510 := by rw [u513]; exact pd_up_kq
      have f512 : h510 x = some (5, .inr (0, [.ref lb, .ref cl, .ref me, .ref ru, .ref bk, .long sp, .int (nI an), .int (nI gn), .int (nI (sn + 1)), .int (nI dn)])) := by rw [u513]; exact pd_up_s _ _ _
      have f514 := k511 _ _ (pd_ne f206 f205 (by simp)) f206
      have f515 := k511 _ _ (pd_ne f207 f205 (by simp)) f207
      have f516 := k511 _ _ (pd_ne f208 f205 (by simp)) f208
      have f517 := k511 _ _ (pd_ne f209 f205 (by simp)) f209
      have f518 := k511 _ _ (pd_ne f210 f205 (by simp)) f210
      have f519 := k511 _ _ (pd_ne f211 f205 (by simp)) f211
      have f520 := k511 _ _ (pd_ne f212 f205 (by simp)) f212
      have f521 := k511 _ _ (pd_ne f213 f205 (by simp)) f213
      have f522 := f214.kx (pd_kq.kx k511 f205) (show (6 : Nat) ∉ [5] by decide) (show (10 : Nat) ∉ [5] by decide) (show (0 : Nat) ∉ [5] by decide)
      have f523 := f215.kx (pd_kq.kx k511 f205) (show (11 : Nat) ∉ [5] by decide) (show (12 : Nat) ∉ [5] by decide) (show (0 : Nat) ∉ [5] by decide)
      have f524 := f216.kx (pd_kq.kx k511 f205) (show (13 : Nat) ∉ [5] by decide) (show (14 : Nat) ∉ [5] by decide) (show (0 : Nat) ∉ [5] by decide)
      have f525 := f217.kx (pd_kq.kx k511 f205) (show (15 : Nat) ∉ [5] by decide) (show (16 : Nat) ∉ [5] by decide) (show (17 : Nat) ∉ [5] by decide) (show (3 : Nat) ∉ [5] by decide) (show (4 : Nat) ∉ [5] by decide)
      have f526 := f218.kx (pd_kq.kx k511 f205) (show (0 : Nat) ∉ [5] by decide)
      have f527 := f219.kx (pd_kq.kx k511 f205) (show (0 : Nat) ∉ [5] by decide)
      have f528 := f220.kx (pd_kq.kx k511 f205) (show (0 : Nat) ∉ [5] by decide)
      have f529 : pd_Str h510 r17 t0 := ⟨_, _, f514, f518, gf41, gc42, gl43⟩
      have f530 := f222.kx (pd_kq.kx k511 f205) (show (0 : Nat) ∉ [5] by decide)
      have f531 := f223.kx (pd_kq.kx k511 f205) (show (1 : Nat) ∉ [5] by decide) (show (2 : Nat) ∉ [5] by decide)
      have f532 : pd_Str h510 a121 t0 := ⟨_, _, f516, f520, gf133, gc134, gl135⟩
      have f533 : pd_Str h510 r118 (gr_w t0 0) := ⟨_, _, f517, f521, gf144, gc145, gl146⟩
      refine lv_iconst (v := -1) hx hb d_p1m3_54 (by decide) ?_
      have kt534 : pd_kx [19, 1, 2, 5] h h510 := by
        intro ya c9 ys0 n9
        have ys1 := k5 ya c9 ys0 List.not_mem_nil
        have ys2 := k33 ya c9 ys1 List.not_mem_nil
        have ys3 := k59 ya c9 (pd_nn ys0 hq2) ys2
        have ys4 := k80 ya c9 ys3 (fun z9 => n9 ((show ∀ t ∈ [19], t ∈ [19, 1, 2, 5] by simp) _ z9))
        have ys5 := k103 ya c9 ys4 (fun z9 => n9 ((show ∀ t ∈ [1, 2], t ∈ [19, 1, 2, 5] by simp) _ z9))
        have ys6 := k136 ya c9 ys5 List.not_mem_nil
        have ys7 := k204 ya c9 ys6 List.not_mem_nil
        have ys8 := k511 ya c9 (pd_ne ys7 f205 (fun z9 => n9 (by rw [z9]; simp))) ys7
        exact ys8
      have hg : gr_line t0 n R k M u U T kp nx sp an gn sn dn = (-1, [], (n, R), (k, M), (u, U), (T, kp, nx), sp, an, gn, sn + 1, dn) := by unfold gr_line; simp only [q169]; rw [if_neg (by rw [← e203, q226]; decide)]
      exact pd_iret (v := (-1)) X w ⟨by rw [hg], pd_kx.mono (us := [1, 2, 3, 4, 5, 6, 7, 8, 9, 10, 11, 12, 13, 14, 15, 16, 17, 18, 19]) (kt534) (by simp), A, B, C, (by rw [hg]; exact ⟨lb, cl, me, ru, bk, f512, hz_x, f531, f522, f523, f524, f525, (Nat.zero_le _)⟩)⟩ (by decide) (by decide) d_p1m3_55
def gr_z0 : pd_st := ([], (2, gr_R2), (0, fun _ => (0, [], [], 0)), (0, fun _ => (0, [], 0, none)), (fun _ => [], 0, 0), 0, 0, 0, 0, 0)
theorem d_p1m1_0 : decode prog_1_method_1_code 0 = .ok (.aload_n 0, 1) := by decide +kernel
theorem d_p1m1_1 : decode prog_1_method_1_code 1 = .ok (.invokespecial 1, 3) := by decide +kernel
theorem d_p1m1_4 : decode prog_1_method_1_code 4 = .ok (.aload_n 0, 1) := by decide +kernel
theorem d_p1m1_5 : decode prog_1_method_1_code 5 = .ok (.new 7, 3) := by decide +kernel
theorem d_p1m1_8 : decode prog_1_method_1_code 8 = .ok (.dup, 1) := by decide +kernel
theorem d_p1m1_9 : decode prog_1_method_1_code 9 = .ok (.invokespecial 9, 3) := by decide +kernel
theorem d_p1m1_12 : decode prog_1_method_1_code 12 = .ok (.putfield 10, 3) := by decide +kernel
theorem d_p1m1_15 : decode prog_1_method_1_code 15 = .ok (.aload_n 0, 1) := by decide +kernel
theorem d_p1m1_16 : decode prog_1_method_1_code 16 = .ok (.new 16, 3) := by decide +kernel
theorem d_p1m1_19 : decode prog_1_method_1_code 19 = .ok (.dup, 1) := by decide +kernel
theorem d_p1m1_20 : decode prog_1_method_1_code 20 = .ok (.invokespecial 18, 3) := by decide +kernel
theorem d_p1m1_23 : decode prog_1_method_1_code 23 = .ok (.putfield 19, 3) := by decide +kernel
theorem d_p1m1_26 : decode prog_1_method_1_code 26 = .ok (.aload_n 0, 1) := by decide +kernel
theorem d_p1m1_27 : decode prog_1_method_1_code 27 = .ok (.new 23, 3) := by decide +kernel
theorem d_p1m1_30 : decode prog_1_method_1_code 30 = .ok (.dup, 1) := by decide +kernel
theorem d_p1m1_31 : decode prog_1_method_1_code 31 = .ok (.invokespecial 25, 3) := by decide +kernel
theorem d_p1m1_34 : decode prog_1_method_1_code 34 = .ok (.putfield 26, 3) := by decide +kernel
theorem d_p1m1_37 : decode prog_1_method_1_code 37 = .ok (.aload_n 0, 1) := by decide +kernel
theorem d_p1m1_38 : decode prog_1_method_1_code 38 = .ok (.new 30, 3) := by decide +kernel
theorem d_p1m1_41 : decode prog_1_method_1_code 41 = .ok (.dup, 1) := by decide +kernel
theorem d_p1m1_42 : decode prog_1_method_1_code 42 = .ok (.invokespecial 32, 3) := by decide +kernel
theorem d_p1m1_45 : decode prog_1_method_1_code 45 = .ok (.putfield 33, 3) := by decide +kernel
theorem d_p1m1_48 : decode prog_1_method_1_code 48 = .ok (.aload_n 0, 1) := by decide +kernel
theorem d_p1m1_49 : decode prog_1_method_1_code 49 = .ok (.new 37, 3) := by decide +kernel
theorem d_p1m1_52 : decode prog_1_method_1_code 52 = .ok (.dup, 1) := by decide +kernel
theorem d_p1m1_53 : decode prog_1_method_1_code 53 = .ok (.invokespecial 39, 3) := by decide +kernel
theorem d_p1m1_56 : decode prog_1_method_1_code 56 = .ok (.putfield 40, 3) := by decide +kernel
theorem d_p1m1_59 : decode prog_1_method_1_code 59 = .ok (.return_, 1) := by decide +kernel
abbrev y_PolicyDesk_init : MethodName := ⟨"PolicyDesk", "<init>", "()V"⟩
theorem ok_PolicyDesk_init : pd_ok y_PolicyDesk_init prog_1_method_1_code 1 none 0 := ⟨mT_36, mT_1, by decide, by decide +kernel⟩
abbrev rm_PolicyDesk_init : Room := { frames := 12, cells := 73, slots := 2143, locals := 283 }
set_option maxHeartbeats 4000000 in
set_option maxRecDepth 100000 in
theorem c_PolicyDesk_init (l : Launch) (G : pd_G) (h : pd_H) {x : Nat} (hx0 : h x = some (5, .inr (0, [.null, .null, .null, .null, .null, .long 0, .int (nI 0), .int (nI 0), .int (nI 0), .int (nI 0)]))) (hz_x : G.2.1 ≤ x) : pd_Mv l y_PolicyDesk_init prog_1_method_1_code 1 rm_PolicyDesk_init G h [.ref x] (fun h1 => pd_kx [5, 6, 7, 8, 9, 10, 11, 12, 13, 14, 15] h h1 ∧ ∃ A2 B2 C2, pd_DT G h1 x A2 B2 C2 gr_z0) := by
  refine pd_Mv.of (by decide) (Nat.le_of_ble_eq_true rfl) ?_
  intro p e s m below meth c X hmn w ls hl
  have hx := X.1
  have hb := X.2.1
  have hl : lv_has ls 1 [(0, .ref x)] := hl
  refine lv_aload_n hx hb d_p1m1_0 rfl (lv_at hl 0 rfl) ?_
  refine W.objInit hx hb X.2.2.2.2.1 (X.2.2.2.2.2.1 _ mT_37) (X.2.2.2.2.2.1 _ mT_38) (X.2.2.2.2.2.1 _ mT_39) rfl (by rw [X.2.2.2.1]; exact hl.1) rfl d_p1m1_1 (by decide) (Nat.le_of_ble_eq_true rfl) ?_
  refine W.eq (g2 := F0 m 4 ls []) rfl ?_
  refine lv_aload_n hx hb d_p1m1_4 rfl (lv_at hl 0 rfl) ?_
  refine pd_new (ci := 11) (C := "java/lang/StringBuilder") (T := pd_F11) (N := 4) (fs := [.null, .int (nI 0), .int (nI 0), .int (nI 0)]) 1 X w rfl mT_40 mT_41 mT_3 (pd_hfs (by decide +kernel)) (by decide) (by decide) d_p1m1_5 (fun q1 H hq2 hz3 w => ?_)
  refine W.widen (k := 1) (n := 4) (by decide) (by decide) ?_
  obtain ⟨h4, u7⟩ : ∃ z, z = pd_up h q1 (1, .inr (11, [.null, .int (nI 0), .int (nI 0), .int (nI 0)])) := ⟨_, rfl⟩
  rw [← u7] at w
  have k5 : pd_kx [] h h4 := by rw [u7]; exact pd_new_kx hq2
  have f6 : h4 q1 = some (1, .inr (11, [.null, .int (nI 0), .int (nI 0), .int (nI 0)])) := by rw [u7]; exact pd_up_s _ _ _
  have f8 := k5 _ _ hx0 List.not_mem_nil
  refine lv_dup hx hb d_p1m1_8 rfl ?_
  refine pd_cI (a := q1) (As := []) (rest := [.ref q1, .ref x]) X w (c_SB_init l G h4 2 (by assumption) (by assumption)) ok_SB_init rfl mT_43 mT_42 ⟨by decide, by decide⟩ rfl hl.1 rfl (Nat.le_of_ble_eq_true rfl) d_p1m1_9 ⟨by decide, by decide⟩ (fun h10 H locs hp11 w => ?_)
  refine W.widen (k := 2) (n := 20) (by decide) (by decide) ?_
  obtain ⟨k12, f13⟩ := hp11
  have f14 := k12 _ _ (pd_nn hx0 hq2) f8
  refine pd_putF (ty := (.object "java/lang/StringBuilder")) X w f14 hz_x rfl 0 (by decide) mT_367 rfl rfl hmn rfl (by decide +kernel) rfl rfl (Nat.le_of_ble_eq_true rfl) d_p1m1_12 (fun H locs w => ?_)
  have w : pd_w G s H locs (pd_up h10 x (5, .inr (0, [.ref q1, .null, .null, .null, .null, .long 0, .int (nI 0), .int (nI 0), .int (nI 0), .int (nI 0)]))) := w
  obtain ⟨h15, u18⟩ : ∃ z, z = pd_up h10 x (5, .inr (0, [.ref q1, .null, .null, .null, .null, .long 0, .int (nI 0), .int (nI 0), .int (nI 0), .int (nI 0)])) := ⟨_, rfl⟩
  rw [← u18] at w
  have k16 : pd_kq x h10 h15 := by rw [u18]; exact pd_up_kq
  have f17 : h15 x = some (5, .inr (0, [.ref q1, .null, .null, .null, .null, .long 0, .int (nI 0), .int (nI 0), .int (nI 0), .int (nI 0)])) := by rw [u18]; exact pd_up_s _ _ _
  have f19 := f13.kx (pd_kq.kx k16 f14) (show (1 : Nat) ∉ [5] by decide) (show (2 : Nat) ∉ [5] by decide)
  refine lv_aload_n hx hb d_p1m1_15 rfl (lv_at hl 0 rfl) ?_
  refine pd_new (ci := 3) (C := "PolicyDesk$Classes") (T := pd_F3) (N := 4) (fs := [.null, .null, .null, .int (nI 0)]) 6 X w rfl mT_73 mT_74 mT_6 (pd_hfs (by decide +kernel)) (by decide) (by decide) d_p1m1_16 (fun q20 H hq21 hz22 w => ?_)
  refine W.widen (k := 3) (n := 24) (by decide) (by decide) ?_
  obtain ⟨h23, u26⟩ : ∃ z, z = pd_up h15 q20 (6, .inr (3, [.null, .null, .null, .int (nI 0)])) := ⟨_, rfl⟩
  rw [← u26] at w
  have k24 : pd_kx [] h15 h23 := by rw [u26]; exact pd_new_kx hq21
  have f25 : h23 q20 = some (6, .inr (3, [.null, .null, .null, .int (nI 0)])) := by rw [u26]; exact pd_up_s _ _ _
  have f27 := k24 _ _ f17 List.not_mem_nil
  have f28 := f19.kx k24 List.not_mem_nil List.not_mem_nil
  refine lv_dup hx hb d_p1m1_19 rfl ?_
  refine pd_cI (a := q20) (As := []) (rest := [.ref q20, .ref x]) X w (c_Classes_init l G h23 (by assumption) (by assumption)) ok_Classes_init rfl mT_76 mT_75 ⟨by decide, by decide⟩ rfl hl.1 rfl (Nat.le_of_ble_eq_true rfl) d_p1m1_20 ⟨by decide, by decide⟩ (fun h30 H locs hp31 w => ?_)
  refine W.widen (k := 64) (n := 902) (by decide) (by decide) ?_
  obtain ⟨k32, A33, f34⟩ := hp31
  have f35 := k32 _ _ f27 (show (5 : Nat) ∉ [6, 7, 8, 9, 10] by decide)
  have f36 := f28.kx k32 (show (1 : Nat) ∉ [6, 7, 8, 9, 10] by decide) (show (2 : Nat) ∉ [6, 7, 8, 9, 10] by decide)
  refine pd_putF (ty := (.object "PolicyDesk$Classes")) X w f35 hz_x rfl 1 (by decide) mT_368 rfl rfl hmn rfl (by decide +kernel) rfl rfl (Nat.le_of_ble_eq_true rfl) d_p1m1_23 (fun H locs w => ?_)
  have w : pd_w G s H locs (pd_up h30 x (5, .inr (0, [.ref q1, .ref q20, .null, .null, .null, .long 0, .int (nI 0), .int (nI 0), .int (nI 0), .int (nI 0)]))) := w
  obtain ⟨h37, u40⟩ : ∃ z, z = pd_up h30 x (5, .inr (0, [.ref q1, .ref q20, .null, .null, .null, .long 0, .int (nI 0), .int (nI 0), .int (nI 0), .int (nI 0)])) := ⟨_, rfl⟩
  rw [← u40] at w
  have k38 : pd_kq x h30 h37 := by rw [u40]; exact pd_up_kq
  have f39 : h37 x = some (5, .inr (0, [.ref q1, .ref q20, .null, .null, .null, .long 0, .int (nI 0), .int (nI 0), .int (nI 0), .int (nI 0)])) := by rw [u40]; exact pd_up_s _ _ _
  have f41 := f36.kx (pd_kq.kx k38 f35) (show (1 : Nat) ∉ [5] by decide) (show (2 : Nat) ∉ [5] by decide)
  have f42 := f34.kx (pd_kq.kx k38 f35) (show (6 : Nat) ∉ [5] by decide) (show (10 : Nat) ∉ [5] by decide) (show (0 : Nat) ∉ [5] by decide)
  refine lv_aload_n hx hb d_p1m1_26 rfl (lv_at hl 0 rfl) ?_
  refine pd_new (ci := 6) (C := "PolicyDesk$Members") (T := pd_F6) (N := 2) (fs := [.null, .int (nI 0)]) 11 X w rfl mT_309 mT_310 mT_18 (pd_hfs (by decide +kernel)) (by decide) (by decide) d_p1m1_27 (fun q43 H hq44 hz45 w => ?_)
  refine W.widen (k := 65) (n := 904) (by decide) (by decide) ?_
  obtain ⟨h46, u49⟩ : ∃ z, z = pd_up h37 q43 (11, .inr (6, [.null, .int (nI 0)])) := ⟨_, rfl⟩
  rw [← u49] at w
  have k47 : pd_kx [] h37 h46 := by rw [u49]; exact pd_new_kx hq44
  have f48 : h46 q43 = some (11, .inr (6, [.null, .int (nI 0)])) := by rw [u49]; exact pd_up_s _ _ _
  have f50 := k47 _ _ f39 List.not_mem_nil
  have f51 := f41.kx k47 List.not_mem_nil List.not_mem_nil
  have f52 := f42.kx k47 List.not_mem_nil List.not_mem_nil List.not_mem_nil
  refine lv_dup hx hb d_p1m1_30 rfl ?_
  refine pd_cIN (a := q43) (As := []) (rest := [.ref q43, .ref x]) X w (c_Members_init l G h46 (by assumption) (by assumption)) ok_Members_init rfl mT_312 mT_311 ⟨by decide, by decide⟩ rfl hl.1 rfl (Nat.le_of_ble_eq_true rfl) d_p1m1_31 ⟨by decide, by decide⟩ (fun h54 H locs hp55 w => ?_)
  refine W.widen (k := 66) (n := 928) (by decide) (by decide) ?_
  obtain ⟨k56, f57⟩ := hp55
  have f58 := k56 _ _ f50 (show (5 : Nat) ∉ [11, 12] by decide)
  have f59 := f51.kx k56 (show (1 : Nat) ∉ [11, 12] by decide) (show (2 : Nat) ∉ [11, 12] by decide)
  have f60 := f52.kx k56 (show (6 : Nat) ∉ [11, 12] by decide) (show (10 : Nat) ∉ [11, 12] by decide) (show (0 : Nat) ∉ [11, 12] by decide)
  have f61 := f57 A33 2 (fun _ => 0) (fun _ => (0, [], [], 0))
  refine pd_putF (ty := (.object "PolicyDesk$Members")) X w f58 hz_x rfl 2 (by decide) mT_369 rfl rfl hmn rfl (by decide +kernel) rfl rfl (Nat.le_of_ble_eq_true rfl) d_p1m1_34 (fun H locs w => ?_)
  have w : pd_w G s H locs (pd_up h54 x (5, .inr (0, [.ref q1, .ref q20, .ref q43, .null, .null, .long 0, .int (nI 0), .int (nI 0), .int (nI 0), .int (nI 0)]))) := w
  obtain ⟨h62, u65⟩ : ∃ z, z = pd_up h54 x (5, .inr (0, [.ref q1, .ref q20, .ref q43, .null, .null, .long 0, .int (nI 0), .int (nI 0), .int (nI 0), .int (nI 0)])) := ⟨_, rfl⟩
  rw [← u65] at w
  have k63 : pd_kq x h54 h62 := by rw [u65]; exact pd_up_kq
  have f64 : h62 x = some (5, .inr (0, [.ref q1, .ref q20, .ref q43, .null, .null, .long 0, .int (nI 0), .int (nI 0), .int (nI 0), .int (nI 0)])) := by rw [u65]; exact pd_up_s _ _ _
  have f66 := f59.kx (pd_kq.kx k63 f58) (show (1 : Nat) ∉ [5] by decide) (show (2 : Nat) ∉ [5] by decide)
  have f67 := f60.kx (pd_kq.kx k63 f58) (show (6 : Nat) ∉ [5] by decide) (show (10 : Nat) ∉ [5] by decide) (show (0 : Nat) ∉ [5] by decide)
  have f68 := f61.kx (pd_kq.kx k63 f58) (show (11 : Nat) ∉ [5] by decide) (show (12 : Nat) ∉ [5] by decide) (show (0 : Nat) ∉ [5] by decide)
  refine lv_aload_n hx hb d_p1m1_37 rfl (lv_at hl 0 rfl) ?_
  refine pd_new (ci := 9) (C := "PolicyDesk$Rules") (T := pd_F9) (N := 2) (fs := [.null, .int (nI 0)]) 13 X w rfl mT_325 mT_326 mT_19 (pd_hfs (by decide +kernel)) (by decide) (by decide) d_p1m1_38 (fun q69 H hq70 hz71 w => ?_)
  refine W.widen (k := 67) (n := 930) (by decide) (by decide) ?_
  obtain ⟨h72, u75⟩ : ∃ z, z = pd_up h62 q69 (13, .inr (9, [.null, .int (nI 0)])) := ⟨_, rfl⟩
  rw [← u75] at w
  have k73 : pd_kx [] h62 h72 := by rw [u75]; exact pd_new_kx hq70
  have f74 : h72 q69 = some (13, .inr (9, [.null, .int (nI 0)])) := by rw [u75]; exact pd_up_s _ _ _
  have f76 := k73 _ _ f64 List.not_mem_nil
  have f77 := f66.kx k73 List.not_mem_nil List.not_mem_nil
  have f78 := f67.kx k73 List.not_mem_nil List.not_mem_nil List.not_mem_nil
  have f79 := f68.kx k73 List.not_mem_nil List.not_mem_nil List.not_mem_nil
  refine lv_dup hx hb d_p1m1_41 rfl ?_
  refine pd_cIN (a := q69) (As := []) (rest := [.ref q69, .ref x]) X w (c_Rules_init l G h72 (by assumption) (by assumption)) ok_Rules_init rfl mT_328 mT_327 ⟨by decide, by decide⟩ rfl hl.1 rfl (Nat.le_of_ble_eq_true rfl) d_p1m1_42 ⟨by decide, by decide⟩ (fun h81 H locs hp82 w => ?_)
  refine W.widen (k := 68) (n := 954) (by decide) (by decide) ?_
  obtain ⟨k83, f84⟩ := hp82
  have f85 := k83 _ _ f76 (show (5 : Nat) ∉ [13, 14] by decide)
  have f86 := f77.kx k83 (show (1 : Nat) ∉ [13, 14] by decide) (show (2 : Nat) ∉ [13, 14] by decide)
  have f87 := f78.kx k83 (show (6 : Nat) ∉ [13, 14] by decide) (show (10 : Nat) ∉ [13, 14] by decide) (show (0 : Nat) ∉ [13, 14] by decide)
  have f88 := f79.kx k83 (show (11 : Nat) ∉ [13, 14] by decide) (show (12 : Nat) ∉ [13, 14] by decide) (show (0 : Nat) ∉ [13, 14] by decide)
  have f89 := f84 (fun _ => 0) 0 (fun _ => 0) (fun _ => (0, [], 0, none))
  refine pd_putF (ty := (.object "PolicyDesk$Rules")) X w f85 hz_x rfl 3 (by decide) mT_370 rfl rfl hmn rfl (by decide +kernel) rfl rfl (Nat.le_of_ble_eq_true rfl) d_p1m1_45 (fun H locs w => ?_)
  have w : pd_w G s H locs (pd_up h81 x (5, .inr (0, [.ref q1, .ref q20, .ref q43, .ref q69, .null, .long 0, .int (nI 0), .int (nI 0), .int (nI 0), .int (nI 0)]))) := w
  obtain ⟨h90, u93⟩ : ∃ z, z = pd_up h81 x (5, .inr (0, [.ref q1, .ref q20, .ref q43, .ref q69, .null, .long 0, .int (nI 0), .int (nI 0), .int (nI 0), .int (nI 0)])) := ⟨_, rfl⟩
  rw [← u93] at w
  have k91 : pd_kq x h81 h90 := by rw [u93]; exact pd_up_kq
  have f92 : h90 x = some (5, .inr (0, [.ref q1, .ref q20, .ref q43, .ref q69, .null, .long 0, .int (nI 0), .int (nI 0), .int (nI 0), .int (nI 0)])) := by rw [u93]; exact pd_up_s _ _ _
  have f94 := f86.kx (pd_kq.kx k91 f85) (show (1 : Nat) ∉ [5] by decide) (show (2 : Nat) ∉ [5] by decide)
  have f95 := f87.kx (pd_kq.kx k91 f85) (show (6 : Nat) ∉ [5] by decide) (show (10 : Nat) ∉ [5] by decide) (show (0 : Nat) ∉ [5] by decide)
  have f96 := f88.kx (pd_kq.kx k91 f85) (show (11 : Nat) ∉ [5] by decide) (show (12 : Nat) ∉ [5] by decide) (show (0 : Nat) ∉ [5] by decide)
  have f97 := f89.kx (pd_kq.kx k91 f85) (show (13 : Nat) ∉ [5] by decide) (show (14 : Nat) ∉ [5] by decide) (show (0 : Nat) ∉ [5] by decide)
  refine lv_aload_n hx hb d_p1m1_48 rfl (lv_at hl 0 rfl) ?_
  refine pd_new (ci := 1) (C := "PolicyDesk$Audit") (T := pd_F1) (N := 5) (fs := [.null, .null, .null, .int (nI 0), .int (nI 0)]) 15 X w rfl mT_341 mT_342 mT_20 (pd_hfs (by decide +kernel)) (by decide) (by decide) d_p1m1_49 (fun q98 H hq99 hz100 w => ?_)
  refine W.widen (k := 69) (n := 959) (by decide) (by decide) ?_
  obtain ⟨h101, u104⟩ : ∃ z, z = pd_up h90 q98 (15, .inr (1, [.null, .null, .null, .int (nI 0), .int (nI 0)])) := ⟨_, rfl⟩
  rw [← u104] at w
  have k102 : pd_kx [] h90 h101 := by rw [u104]; exact pd_new_kx hq99
  have f103 : h101 q98 = some (15, .inr (1, [.null, .null, .null, .int (nI 0), .int (nI 0)])) := by rw [u104]; exact pd_up_s _ _ _
  have f105 := k102 _ _ f92 List.not_mem_nil
  have f106 := f94.kx k102 List.not_mem_nil List.not_mem_nil
  have f107 := f95.kx k102 List.not_mem_nil List.not_mem_nil List.not_mem_nil
  have f108 := f96.kx k102 List.not_mem_nil List.not_mem_nil List.not_mem_nil
  have f109 := f97.kx k102 List.not_mem_nil List.not_mem_nil List.not_mem_nil
  refine lv_dup hx hb d_p1m1_52 rfl ?_
  refine pd_cIN (a := q98) (As := []) (rest := [.ref q98, .ref x]) X w (c_Audit_init l G h101 (by assumption) (by assumption)) ok_Audit_init rfl mT_344 mT_343 ⟨by decide, by decide⟩ rfl hl.1 rfl (Nat.le_of_ble_eq_true rfl) d_p1m1_53 ⟨by decide, by decide⟩ (fun h111 H locs hp112 w => ?_)
  refine W.widen (k := 73) (n := 2143) (by decide) (by decide) ?_
  obtain ⟨k113, f114⟩ := hp112
  have f115 := k113 _ _ f105 (show (5 : Nat) ∉ [15] by decide)
  have f116 := f106.kx k113 (show (1 : Nat) ∉ [15] by decide) (show (2 : Nat) ∉ [15] by decide)
  have f117 := f107.kx k113 (show (6 : Nat) ∉ [15] by decide) (show (10 : Nat) ∉ [15] by decide) (show (0 : Nat) ∉ [15] by decide)
  have f118 := f108.kx k113 (show (11 : Nat) ∉ [15] by decide) (show (12 : Nat) ∉ [15] by decide) (show (0 : Nat) ∉ [15] by decide)
  have f119 := f109.kx k113 (show (13 : Nat) ∉ [15] by decide) (show (14 : Nat) ∉ [15] by decide) (show (0 : Nat) ∉ [15] by decide)
  refine pd_putF (ty := (.object "PolicyDesk$Audit")) X w f115 hz_x rfl 4 (by decide) mT_371 rfl rfl hmn rfl (by decide +kernel) rfl rfl (Nat.le_of_ble_eq_true rfl) d_p1m1_56 (fun H locs w => ?_)
  have w : pd_w G s H locs (pd_up h111 x (5, .inr (0, [.ref q1, .ref q20, .ref q43, .ref q69, .ref q98, .long 0, .int (nI 0), .int (nI 0), .int (nI 0), .int (nI 0)]))) := w
  obtain ⟨h120, u123⟩ : ∃ z, z = pd_up h111 x (5, .inr (0, [.ref q1, .ref q20, .ref q43, .ref q69, .ref q98, .long 0, .int (nI 0), .int (nI 0), .int (nI 0), .int (nI 0)])) := ⟨_, rfl⟩
  rw [← u123] at w
  have k121 : pd_kq x h111 h120 := by rw [u123]; exact pd_up_kq
  have f122 : h120 x = some (5, .inr (0, [.ref q1, .ref q20, .ref q43, .ref q69, .ref q98, .long 0, .int (nI 0), .int (nI 0), .int (nI 0), .int (nI 0)])) := by rw [u123]; exact pd_up_s _ _ _
  have f124 := f116.kx (pd_kq.kx k121 f115) (show (1 : Nat) ∉ [5] by decide) (show (2 : Nat) ∉ [5] by decide)
  have f125 := f117.kx (pd_kq.kx k121 f115) (show (6 : Nat) ∉ [5] by decide) (show (10 : Nat) ∉ [5] by decide) (show (0 : Nat) ∉ [5] by decide)
  have f126 := f118.kx (pd_kq.kx k121 f115) (show (11 : Nat) ∉ [5] by decide) (show (12 : Nat) ∉ [5] by decide) (show (0 : Nat) ∉ [5] by decide)
  have f127 := f119.kx (pd_kq.kx k121 f115) (show (13 : Nat) ∉ [5] by decide) (show (14 : Nat) ∉ [5] by decide) (show (0 : Nat) ∉ [5] by decide)
  have f128 := f114.kx (pd_kq.kx k121 f115) (show (15 : Nat) ∉ [5] by decide) (show (16 : Nat) ∉ [5] by decide) (show (17 : Nat) ∉ [5] by decide) (show (3 : Nat) ∉ [5] by decide) (show (4 : Nat) ∉ [5] by decide)
  have kt129 : pd_kx [5, 6, 7, 8, 9, 10, 11, 12, 13, 14, 15] h h120 := by
    intro ya c9 ys0 n9
    have ys1 := k5 ya c9 ys0 List.not_mem_nil
    have ys2 := k12 ya c9 (pd_nn ys0 hq2) ys1
    have ys3 := k16 ya c9 (pd_ne ys2 f14 (fun z9 => n9 (by rw [z9]; simp))) ys2
    have ys4 := k24 ya c9 ys3 List.not_mem_nil
    have ys5 := k32 ya c9 ys4 (fun z9 => n9 ((show ∀ t ∈ [6, 7, 8, 9, 10], t ∈ [5, 6, 7, 8, 9, 10, 11, 12, 13, 14, 15] by simp) _ z9))
    have ys6 := k38 ya c9 (pd_ne ys5 f35 (fun z9 => n9 (by rw [z9]; simp))) ys5
    have ys7 := k47 ya c9 ys6 List.not_mem_nil
    have ys8 := k56 ya c9 ys7 (fun z9 => n9 ((show ∀ t ∈ [11, 12], t ∈ [5, 6, 7, 8, 9, 10, 11, 12, 13, 14, 15] by simp) _ z9))
    have ys9 := k63 ya c9 (pd_ne ys8 f58 (fun z9 => n9 (by rw [z9]; simp))) ys8
    have ys10 := k73 ya c9 ys9 List.not_mem_nil
    have ys11 := k83 ya c9 ys10 (fun z9 => n9 ((show ∀ t ∈ [13, 14], t ∈ [5, 6, 7, 8, 9, 10, 11, 12, 13, 14, 15] by simp) _ z9))
    have ys12 := k91 ya c9 (pd_ne ys11 f85 (fun z9 => n9 (by rw [z9]; simp))) ys11
    have ys13 := k102 ya c9 ys12 List.not_mem_nil
    have ys14 := k113 ya c9 ys13 (fun z9 => n9 ((show ∀ t ∈ [15], t ∈ [5, 6, 7, 8, 9, 10, 11, 12, 13, 14, 15] by simp) _ z9))
    have ys15 := k121 ya c9 (pd_ne ys14 f115 (fun z9 => n9 (by rw [z9]; simp))) ys14
    exact ys15
  exact pd_vret X w ⟨kt129, A33, (fun _ => 0), (fun _ => 0), q1, q20, q43, q69, q98, f122, hz_x, f124, f125, f126, f127, f128, Nat.zero_le _⟩ (by decide) (by decide) d_p1m1_59
