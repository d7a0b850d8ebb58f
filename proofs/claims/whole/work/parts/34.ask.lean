theorem d_p1m20_0 : decode prog_1_method_20_code 0 = .ok (.aload_n 0, 1) := by decide +kernel
theorem d_p1m20_1 : decode prog_1_method_20_code 1 = .ok (.getfield 19, 3) := by decide +kernel
theorem d_p1m20_4 : decode prog_1_method_20_code 4 = .ok (.aload_n 1, 1) := by decide +kernel
theorem d_p1m20_5 : decode prog_1_method_20_code 5 = .ok (.iconst 1, 1) := by decide +kernel
theorem d_p1m20_6 : decode prog_1_method_20_code 6 = .ok (.invokevirtual 73, 3) := by decide +kernel
theorem d_p1m20_9 : decode prog_1_method_20_code 9 = .ok (.invokevirtual 197, 3) := by decide +kernel
theorem d_p1m20_12 : decode prog_1_method_20_code 12 = .ok (.astore_n 3, 1) := by decide +kernel
theorem d_p1m20_13 : decode prog_1_method_20_code 13 = .ok (.aload_n 3, 1) := by decide +kernel
theorem d_p1m20_14 : decode prog_1_method_20_code 14 = .ok (.ifnonnull 6, 3) := by decide +kernel
theorem d_p1m20_17 : decode prog_1_method_20_code 17 = .ok (.bipush (-2), 2) := by decide +kernel
theorem d_p1m20_19 : decode prog_1_method_20_code 19 = .ok (.ireturn, 1) := by decide +kernel
theorem d_p1m20_20 : decode prog_1_method_20_code 20 = .ok (.aload_n 2, 1) := by decide +kernel
theorem d_p1m20_21 : decode prog_1_method_20_code 21 = .ok (.getstatic 279, 3) := by decide +kernel
theorem d_p1m20_24 : decode prog_1_method_20_code 24 = .ok (.if_acmp .ne 13, 3) := by decide +kernel
theorem d_p1m20_27 : decode prog_1_method_20_code 27 = .ok (.aload_n 3, 1) := by decide +kernel
theorem d_p1m20_28 : decode prog_1_method_20_code 28 = .ok (.getfield 131, 3) := by decide +kernel
theorem d_p1m20_31 : decode prog_1_method_20_code 31 = .ok (.ifCond .eq 6, 3) := by decide +kernel
theorem d_p1m20_34 : decode prog_1_method_20_code 34 = .ok (.bipush (-4), 2) := by decide +kernel
theorem d_p1m20_36 : decode prog_1_method_20_code 36 = .ok (.ireturn, 1) := by decide +kernel
theorem d_p1m20_37 : decode prog_1_method_20_code 37 = .ok (.aload_n 2, 1) := by decide +kernel
theorem d_p1m20_38 : decode prog_1_method_20_code 38 = .ok (.getstatic 282, 3) := by decide +kernel
theorem d_p1m20_41 : decode prog_1_method_20_code 41 = .ok (.if_acmp .ne 17, 3) := by decide +kernel
theorem d_p1m20_44 : decode prog_1_method_20_code 44 = .ok (.aload_n 0, 1) := by decide +kernel
theorem d_p1m20_45 : decode prog_1_method_20_code 45 = .ok (.getfield 19, 3) := by decide +kernel
theorem d_p1m20_48 : decode prog_1_method_20_code 48 = .ok (.aload_n 3, 1) := by decide +kernel
theorem d_p1m20_49 : decode prog_1_method_20_code 49 = .ok (.invokevirtual 285, 3) := by decide +kernel
theorem d_p1m20_52 : decode prog_1_method_20_code 52 = .ok (.ifCond .eq 6, 3) := by decide +kernel
theorem d_p1m20_55 : decode prog_1_method_20_code 55 = .ok (.bipush (-6), 2) := by decide +kernel
theorem d_p1m20_57 : decode prog_1_method_20_code 57 = .ok (.ireturn, 1) := by decide +kernel
theorem d_p1m20_58 : decode prog_1_method_20_code 58 = .ok (.aload_n 0, 1) := by decide +kernel
theorem d_p1m20_59 : decode prog_1_method_20_code 59 = .ok (.aload_n 3, 1) := by decide +kernel
theorem d_p1m20_60 : decode prog_1_method_20_code 60 = .ok (.aconst_null, 1) := by decide +kernel
theorem d_p1m20_61 : decode prog_1_method_20_code 61 = .ok (.invokevirtual 288, 3) := by decide +kernel
theorem d_p1m20_64 : decode prog_1_method_20_code 64 = .ok (.ireturn, 1) := by decide +kernel
abbrev y_PolicyDesk_judgeClass : MethodName := ⟨"PolicyDesk", "judgeClass", "(LPolicyDesk$Line;LPolicyDesk$Verb;)I"⟩
theorem ok_PolicyDesk_judgeClass : pd_ok y_PolicyDesk_judgeClass prog_1_method_20_code 4 (some .int) 2 := ⟨mT_979, mT_1, by decide, by decide +kernel⟩
abbrev rm_PolicyDesk_judgeClass : Room := { frames := 8, cells := 2, slots := 64, locals := 183 }
set_option maxHeartbeats 4000000 in
set_option maxRecDepth 100000 in
theorem c_PolicyDesk_judgeClass (l : Launch) (G : pd_G) (h : pd_H) {x : Nat} {A B C : Nat → Nat} {t0 : List Nat} {n : Nat} {R : Nat → pd_cr} {k : Nat} {M : Nat → pd_mr} {u : Nat} {U : Nat → pd_rr} {T : Nat → List Nat} {kp nx : Nat} {sp : Int64} {an gn sn dn : Nat} {y v : Nat} {cs : List Nat} (hD : pd_DX G h x A B C t0 n R k M u U T kp nx sp an gn sn dn) (hL : pd_Ln h y cs) (hv : v < 13) : pd_M l y_PolicyDesk_judgeClass prog_1_method_20_code 4 (some .int) rm_PolicyDesk_judgeClass G h [.ref x, .ref y, .ref (G.2.2.2 (10 + v))] Value.int (fun r h1 => r = (gr_jc n R M u U cs v).1 ∧ pd_kx [5] h h1 ∧ pd_DX G h1 x A B C t0 n R k M u U T kp nx sp an gn sn (dn + (gr_jc n R M u U cs v).2)) := by
  refine pd_M.of (by decide) (Nat.le_of_ble_eq_true rfl) ?_
  intro p e s m below meth c X hmn w ls hl
  have hx := X.1
  have hb := X.2.1
  have hl : lv_has ls 4 [(0, .ref x), (1, .ref y), (2, .ref (G.2.2.2 (10 + v)))] := hl
  obtain ⟨lb, cl, me, ru, bk, hx0, hz_x, hsb, hC, hM, hU, hA, ht60⟩ := id hD
  have hR := hC.rows
  have hMR := hM.mrows
  have hRR := hU.rrows
  have hcw := hR.2.2
  have hAi := hR.2.1
  have hn14 := hcw.1
  have ht21 : (2 : Nat) ≠ 1 := by decide
  have ht10 : (1 : Nat) ≠ 0 := by decide
  have ht20 : (2 : Nat) ≠ 0 := by decide
  refine lv_aload_n hx hb d_p1m20_0 rfl (lv_at hl 0 rfl) ?_
  refine pd_get X w hx0 rfl 1 (by decide) mT_368 rfl rfl d_p1m20_1 ?_
  refine lv_aload_n hx hb d_p1m20_4 rfl (lv_at hl 1 rfl) ?_
  refine lv_iconst (v := nI 1) hx hb d_p1m20_5 (by decide) ?_
  obtain ⟨a4, st5, fA6, f7, f8, nu9, f10⟩ := id hL
  have hc11 := (gr_cut_ok cs).1
  obtain ⟨v12, g13, f14, f15, gf16, gc17, gl18⟩ := id f10
  refine pd_cV (a := y) (As := [.int (nI 1)]) (rest := [.ref cl]) X w f7 rfl (c_Line_word l G h (by assumption) (by omega)) ok_Line_word ⟨mT_574, mT_575⟩ mT_573 ⟨by decide, by decide⟩ rfl hl.1 rfl (Nat.le_of_ble_eq_true rfl) d_p1m20_6 ⟨by decide, by decide⟩ (fun r1 h2 H locs hp3 w => ?_)
  refine W.widen (k := 2) (n := 64) (by decide) (by decide) ?_
  obtain ⟨k19, ds20, e21, f22⟩ := hp3
  have f30 := k19 _ _ hx0 List.not_mem_nil
  have f31 := k19 _ _ f7 List.not_mem_nil
  have f32 := k19 _ _ f14 List.not_mem_nil
  have f33 := k19 _ _ f15 List.not_mem_nil
  have f34 := hsb.kx k19 List.not_mem_nil List.not_mem_nil
  have f35 := hC.kx k19 List.not_mem_nil List.not_mem_nil List.not_mem_nil
  have f36 := hM.kx k19 List.not_mem_nil List.not_mem_nil List.not_mem_nil
  have f37 := hU.kx k19 List.not_mem_nil List.not_mem_nil List.not_mem_nil
  have f38 := hA.kx k19 List.not_mem_nil List.not_mem_nil List.not_mem_nil List.not_mem_nil List.not_mem_nil
  have f39 := hR.kx k19 List.not_mem_nil
  have f40 := hMR.kx k19 List.not_mem_nil
  have f41 := hRR.kx k19 List.not_mem_nil
  have f42 := hL.kx k19 List.not_mem_nil
  have f43 := f10.kx k19 List.not_mem_nil
  obtain ⟨v23, g24, f25, f26, gf27, gc28, gl29⟩ := id f22
  subst e21
  obtain ⟨ar47, g48, f49, f50, g51, hz52, hz53, z54, f55⟩ := id f35
  refine pd_cV (a := cl) (As := [.ref r1]) (rest := []) X w f49 rfl (c_Classes_find l G h2 (by assumption) (by assumption)) ok_Classes_find ⟨mT_773, mT_774⟩ mT_772 ⟨by decide, by decide⟩ rfl hl.1 rfl (Nat.le_of_ble_eq_true rfl) d_p1m20_9 ⟨by decide, by decide⟩ (fun r44 h45 H locs hp46 w => ?_)
  refine W.widen (k := 2) (n := 64) (by decide) (by decide) ?_
  obtain ⟨e56, rfl⟩ := hp46
  refine pd_ostore_n (lv' := [(3, va_rf r44), (0, .ref x), (1, .ref y), (2, .ref (G.2.2.2 (10 + v)))]) hx hb d_p1m20_12 rfl hl (by decide) rfl (fun ls hl => ?_)
  refine pd_oload_n hx hb d_p1m20_13 rfl (lv_at hl 0 rfl) ?_
  rcases pd_om e56 with ⟨q57, q60⟩ | ⟨i59, q57, q60⟩
  · -- none
    refine pd_top (v' := .null) (by rw [q60]; rfl) ?_
    rw [q60] at hl
    have hl : lv_has ls 4 [(3, .null), (0, .ref x), (1, .ref y), (2, .ref (G.2.2.2 (10 + v)))] := hl
    refine lv_ifnonnullN hx hb d_p1m20_14 ?_
    refine lv_bipush (v := -2) hx hb d_p1m20_17 (by decide) ?_
    have hg : gr_jc n R M u U cs v = (-2, 0) := by unfold gr_jc; simp only [q57]
    exact pd_iret (v := (-2)) X w ⟨by rw [hg], pd_kx.mono (us := [5]) (k19) (by simp), (by rw [hg]; exact ⟨lb, cl, me, ru, bk, f30, hz_x, f34, f35, f36, f37, f38, ht60⟩)⟩ (by decide) (by decide) d_p1m20_19
  · -- some
    refine pd_top (v' := .ref (A i59)) (by rw [q60]; rfl) ?_
    rw [q60] at hl
    have hl : lv_has ls 4 [(3, .ref (A i59)), (0, .ref x), (1, .ref y), (2, .ref (G.2.2.2 (10 + v)))] := hl
    have i59lt := gr_fi_lt q57
    refine lv_ifnonnull (tgt := 20) hx hb d_p1m20_14 (by decide) ?_
    refine lv_aload_n hx hb d_p1m20_20 rfl (lv_at hl 3 rfl) ?_
    refine pd_gets X w (List.mem_of_getElem? (i := 14) rfl) mT_980 d_p1m20_21 ?_
    refine lv_acmp_ne (rx := (some (G.2.2.2 (10 + v)))) (ry := (some (G.2.2.2 18))) (tgt := 37) hx hb d_p1m20_24 (by decide) (fun q63 => ?_) (fun q63 => ?_)
    · -- taken: 37
      have hvb8 : ¬ v = 8 := (fun e9 => q63 (by rw [e9]))
      refine lv_aload_n hx hb d_p1m20_37 rfl (lv_at hl 3 rfl) ?_
      refine pd_gets X w (List.mem_of_getElem? (i := 16) rfl) mT_982 d_p1m20_38 ?_
      refine lv_acmp_ne (rx := (some (G.2.2.2 (10 + v)))) (ry := (some (G.2.2.2 20))) (tgt := 58) hx hb d_p1m20_41 (by decide) (fun q64 => ?_) (fun q64 => ?_)
      · -- taken: 58
        have hvb10 : ¬ v = 10 := (fun e9 => q64 (by rw [e9]))
        refine lv_aload_n hx hb d_p1m20_58 rfl (lv_at hl 1 rfl) ?_
        refine lv_aload_n hx hb d_p1m20_59 rfl (lv_at hl 0 rfl) ?_
        refine lv_null hx hb d_p1m20_60 ?_
        refine pd_cV (a := x) (As := [.ref (A i59), .null]) (rest := []) X w f30 rfl (c_PolicyDesk_weigh l G h2 (A := A) (B := B) (C := C) (t0 := t0) (n := n) (R := R) (k := k) (M := M) (u := u) (U := U) (T := T) (kp := kp) (nx := nx) (sp := sp) (an := an) (gn := gn) (sn := sn) (dn := dn) (j := i59) (o := none) (⟨lb, cl, me, ru, bk, f30, hz_x, f34, f35, f36, f37, f38, ht60⟩) (by omega) (fun t ht => by cases ht)) ok_PolicyDesk_weigh ⟨mT_962, sT_10⟩ mT_960 ⟨by decide, by decide⟩ rfl hl.1 rfl (Nat.le_of_ble_eq_true rfl) d_p1m20_61 ⟨by decide, by decide⟩ (fun r65 h66 H locs hp67 w => ?_)
        refine W.widen (k := 2) (n := 64) (by decide) (by decide) ?_
        obtain ⟨e68, k69, f70⟩ := hp67
        have f71 := k69 _ _ f31 (show (0 : Nat) ∉ [5] by decide)
        have f72 := k69 _ _ f32 (show (0 : Nat) ∉ [5] by decide)
        have f73 := k69 _ _ f25 (show (0 : Nat) ∉ [5] by decide)
        have f74 := k69 _ _ f49 (show (6 : Nat) ∉ [5] by decide)
        have f75 := k69 _ _ f33 (show (0 : Nat) ∉ [5] by decide)
        have f76 := k69 _ _ f26 (show (0 : Nat) ∉ [5] by decide)
        have f77 := f34.kx k69 (show (1 : Nat) ∉ [5] by decide) (show (2 : Nat) ∉ [5] by decide)
        have f78 := f35.kx k69 (show (6 : Nat) ∉ [5] by decide) (show (10 : Nat) ∉ [5] by decide) (show (0 : Nat) ∉ [5] by decide)
        have f79 := f36.kx k69 (show (11 : Nat) ∉ [5] by decide) (show (12 : Nat) ∉ [5] by decide) (show (0 : Nat) ∉ [5] by decide)
        have f80 := f37.kx k69 (show (13 : Nat) ∉ [5] by decide) (show (14 : Nat) ∉ [5] by decide) (show (0 : Nat) ∉ [5] by decide)
        have f81 := f38.kx k69 (show (15 : Nat) ∉ [5] by decide) (show (16 : Nat) ∉ [5] by decide) (show (17 : Nat) ∉ [5] by decide) (show (3 : Nat) ∉ [5] by decide) (show (4 : Nat) ∉ [5] by decide)
        have f82 := f39.kx k69 (show (0 : Nat) ∉ [5] by decide)
        have f83 := f40.kx k69 (show (0 : Nat) ∉ [5] by decide)
        have f84 := f41.kx k69 (show (0 : Nat) ∉ [5] by decide)
        have f85 := f42.kx k69 (show (0 : Nat) ∉ [5] by decide)
        have f86 := f43.kx k69 (show (0 : Nat) ∉ [5] by decide)
        have f87 := f22.kx k69 (show (0 : Nat) ∉ [5] by decide)
        have hg : gr_jc n R M u U cs v = gr_wg R M u U i59 none := by unfold gr_jc; simp only [q57]; rw [if_neg (fun h9 => hvb8 h9.1), if_neg (fun h9 => hvb10 h9.1)]
        exact pd_iret (v := r65) X w ⟨by rw [hg]; exact e68, pd_kx.tr (pd_kx.mono (us := [5]) (k19) (by simp)) (k69), (by rw [hg]; exact f70)⟩ (by decide) (by decide) d_p1m20_64
      · -- not taken: 44
        have hvb10 : v = 10 := ((pd_Kf_of X).2.2.2.2.2.2 _ 10 hv (by decide) (Option.some.inj q64))
        refine lv_aload_n hx hb d_p1m20_44 rfl (lv_at hl 1 rfl) ?_
        refine pd_get X w f30 rfl 1 (by decide) mT_368 rfl rfl d_p1m20_45 ?_
        refine lv_aload_n hx hb d_p1m20_48 rfl (lv_at hl 0 rfl) ?_
        refine pd_cV (a := cl) (As := [.ref (A i59)]) (rest := []) X w f49 rfl (c_Classes_couldCatchBudget l G h2 (by assumption) (by omega)) ok_Classes_couldCatchBudget ⟨mT_985, mT_986⟩ mT_984 ⟨by decide, by decide⟩ rfl hl.1 rfl (Nat.le_of_ble_eq_true rfl) d_p1m20_49 ⟨by decide, by decide⟩ (fun r88 h89 H locs hp90 w => ?_)
        refine W.widen (k := 2) (n := 64) (by decide) (by decide) ?_
        obtain ⟨e91, rfl⟩ := hp90
        refine pd_beq (tgt := 58) hx hb d_p1m20_52 (by decide) (fun q92 => ?_) (fun q92 => ?_)
        · -- taken: 58
          refine lv_aload_n hx hb d_p1m20_58 rfl (lv_at hl 1 rfl) ?_
          refine lv_aload_n hx hb d_p1m20_59 rfl (lv_at hl 0 rfl) ?_
          refine lv_null hx hb d_p1m20_60 ?_
          refine pd_cV (a := x) (As := [.ref (A i59), .null]) (rest := []) X w f30 rfl (c_PolicyDesk_weigh l G h2 (A := A) (B := B) (C := C) (t0 := t0) (n := n) (R := R) (k := k) (M := M) (u := u) (U := U) (T := T) (kp := kp) (nx := nx) (sp := sp) (an := an) (gn := gn) (sn := sn) (dn := dn) (j := i59) (o := none) (⟨lb, cl, me, ru, bk, f30, hz_x, f34, f35, f36, f37, f38, ht60⟩) (by omega) (fun t ht => by cases ht)) ok_PolicyDesk_weigh ⟨mT_962, sT_10⟩ mT_960 ⟨by decide, by decide⟩ rfl hl.1 rfl (Nat.le_of_ble_eq_true rfl) d_p1m20_61 ⟨by decide, by decide⟩ (fun r93 h94 H locs hp95 w => ?_)
          refine W.widen (k := 2) (n := 64) (by decide) (by decide) ?_
          obtain ⟨e96, k97, f98⟩ := hp95
          have f99 := k97 _ _ f31 (show (0 : Nat) ∉ [5] by decide)
          have f100 := k97 _ _ f32 (show (0 : Nat) ∉ [5] by decide)
          have f101 := k97 _ _ f25 (show (0 : Nat) ∉ [5] by decide)
          have f102 := k97 _ _ f49 (show (6 : Nat) ∉ [5] by decide)
          have f103 := k97 _ _ f33 (show (0 : Nat) ∉ [5] by decide)
          have f104 := k97 _ _ f26 (show (0 : Nat) ∉ [5] by decide)
          have f105 := f34.kx k97 (show (1 : Nat) ∉ [5] by decide) (show (2 : Nat) ∉ [5] by decide)
          have f106 := f35.kx k97 (show (6 : Nat) ∉ [5] by decide) (show (10 : Nat) ∉ [5] by decide) (show (0 : Nat) ∉ [5] by decide)
          have f107 := f36.kx k97 (show (11 : Nat) ∉ [5] by decide) (show (12 : Nat) ∉ [5] by decide) (show (0 : Nat) ∉ [5] by decide)
          have f108 := f37.kx k97 (show (13 : Nat) ∉ [5] by decide) (show (14 : Nat) ∉ [5] by decide) (show (0 : Nat) ∉ [5] by decide)
          have f109 := f38.kx k97 (show (15 : Nat) ∉ [5] by decide) (show (16 : Nat) ∉ [5] by decide) (show (17 : Nat) ∉ [5] by decide) (show (3 : Nat) ∉ [5] by decide) (show (4 : Nat) ∉ [5] by decide)
          have f110 := f39.kx k97 (show (0 : Nat) ∉ [5] by decide)
          have f111 := f40.kx k97 (show (0 : Nat) ∉ [5] by decide)
          have f112 := f41.kx k97 (show (0 : Nat) ∉ [5] by decide)
          have f113 := f42.kx k97 (show (0 : Nat) ∉ [5] by decide)
          have f114 := f43.kx k97 (show (0 : Nat) ∉ [5] by decide)
          have f115 := f22.kx k97 (show (0 : Nat) ∉ [5] by decide)
          have hg : gr_jc n R M u U cs v = gr_wg R M u U i59 none := by unfold gr_jc; simp only [q57]; rw [if_neg (fun h9 => hvb8 h9.1), if_neg (fun h9 => by rw [← e91, q92] at h9; cases h9.2)]
          exact pd_iret (v := r93) X w ⟨by rw [hg]; exact e96, pd_kx.tr (pd_kx.mono (us := [5]) (k19) (by simp)) (k97), (by rw [hg]; exact f98)⟩ (by decide) (by decide) d_p1m20_64
        · -- not taken: 55
          refine lv_bipush (v := -6) hx hb d_p1m20_55 (by decide) ?_
          have hg : gr_jc n R M u U cs v = (-6, 0) := by unfold gr_jc; simp only [q57]; rw [if_neg (fun h9 => hvb8 h9.1), if_pos ⟨hvb10, e91.symm.trans q92⟩]
          exact pd_iret (v := (-6)) X w ⟨by rw [hg], pd_kx.mono (us := [5]) (k19) (by simp), (by rw [hg]; exact ⟨lb, cl, me, ru, bk, f30, hz_x, f34, f35, f36, f37, f38, ht60⟩)⟩ (by decide) (by decide) d_p1m20_57
    · -- not taken: 27
      have hvb8 : v = 8 := ((pd_Kf_of X).2.2.2.2.2.2 _ 8 hv (by decide) (Option.some.inj q63))
      refine lv_aload_n hx hb d_p1m20_27 rfl (lv_at hl 0 rfl) ?_
      obtain ⟨nm116, fx117, f118, f119, f120⟩ := f39.1 i59 (by omega)
      obtain ⟨v121, g122, f123, f124, gf125, gc126, gl127⟩ := id f119
      obtain ⟨v128, cap129, g130, f131, z132, z133, z134, z135, z136⟩ := id f120
      refine pd_get X w f118 rfl 2 (by decide) mT_260 rfl rfl d_p1m20_28 ?_
      refine pd_beq (tgt := 37) hx hb d_p1m20_31 (by decide) (fun q137 => ?_) (fun q137 => ?_)
      · -- taken: 37
        refine lv_aload_n hx hb d_p1m20_37 rfl (lv_at hl 3 rfl) ?_
        refine pd_gets X w (List.mem_of_getElem? (i := 16) rfl) mT_982 d_p1m20_38 ?_
        refine lv_acmp_ne (rx := (some (G.2.2.2 (10 + v)))) (ry := (some (G.2.2.2 20))) (tgt := 58) hx hb d_p1m20_41 (by decide) (fun q138 => ?_) (fun q138 => ?_)
        · -- taken: 58
          have hvb10 : ¬ v = 10 := (fun e9 => q138 (by rw [e9]))
          refine lv_aload_n hx hb d_p1m20_58 rfl (lv_at hl 1 rfl) ?_
          refine lv_aload_n hx hb d_p1m20_59 rfl (lv_at hl 0 rfl) ?_
          refine lv_null hx hb d_p1m20_60 ?_
          refine pd_cV (a := x) (As := [.ref (A i59), .null]) (rest := []) X w f30 rfl (c_PolicyDesk_weigh l G h2 (A := A) (B := B) (C := C) (t0 := t0) (n := n) (R := R) (k := k) (M := M) (u := u) (U := U) (T := T) (kp := kp) (nx := nx) (sp := sp) (an := an) (gn := gn) (sn := sn) (dn := dn) (j := i59) (o := none) (⟨lb, cl, me, ru, bk, f30, hz_x, f34, f35, f36, f37, f38, ht60⟩) (by omega) (fun t ht => by cases ht)) ok_PolicyDesk_weigh ⟨mT_962, sT_10⟩ mT_960 ⟨by decide, by decide⟩ rfl hl.1 rfl (Nat.le_of_ble_eq_true rfl) d_p1m20_61 ⟨by decide, by decide⟩ (fun r139 h140 H locs hp141 w => ?_)
          refine W.widen (k := 2) (n := 64) (by decide) (by decide) ?_
          obtain ⟨e142, k143, f144⟩ := hp141
          have f145 := k143 _ _ f31 (show (0 : Nat) ∉ [5] by decide)
          have f146 := k143 _ _ f32 (show (0 : Nat) ∉ [5] by decide)
          have f147 := k143 _ _ f25 (show (0 : Nat) ∉ [5] by decide)
          have f148 := k143 _ _ f49 (show (6 : Nat) ∉ [5] by decide)
          have f149 := k143 _ _ f118 (show (0 : Nat) ∉ [5] by decide)
          have f150 := k143 _ _ f123 (show (0 : Nat) ∉ [5] by decide)
          have f151 := k143 _ _ f131 (show (0 : Nat) ∉ [5] by decide)
          have f152 := k143 _ _ f33 (show (0 : Nat) ∉ [5] by decide)
          have f153 := k143 _ _ f26 (show (0 : Nat) ∉ [5] by decide)
          have f154 := k143 _ _ f124 (show (0 : Nat) ∉ [5] by decide)
          have f155 := f34.kx k143 (show (1 : Nat) ∉ [5] by decide) (show (2 : Nat) ∉ [5] by decide)
          have f156 := f35.kx k143 (show (6 : Nat) ∉ [5] by decide) (show (10 : Nat) ∉ [5] by decide) (show (0 : Nat) ∉ [5] by decide)
          have f157 := f36.kx k143 (show (11 : Nat) ∉ [5] by decide) (show (12 : Nat) ∉ [5] by decide) (show (0 : Nat) ∉ [5] by decide)
          have f158 := f37.kx k143 (show (13 : Nat) ∉ [5] by decide) (show (14 : Nat) ∉ [5] by decide) (show (0 : Nat) ∉ [5] by decide)
          have f159 := f38.kx k143 (show (15 : Nat) ∉ [5] by decide) (show (16 : Nat) ∉ [5] by decide) (show (17 : Nat) ∉ [5] by decide) (show (3 : Nat) ∉ [5] by decide) (show (4 : Nat) ∉ [5] by decide)
          have f160 := f39.kx k143 (show (0 : Nat) ∉ [5] by decide)
          have f161 := f40.kx k143 (show (0 : Nat) ∉ [5] by decide)
          have f162 := f41.kx k143 (show (0 : Nat) ∉ [5] by decide)
          have f163 := f42.kx k143 (show (0 : Nat) ∉ [5] by decide)
          have f164 := f43.kx k143 (show (0 : Nat) ∉ [5] by decide)
          have f165 := f22.kx k143 (show (0 : Nat) ∉ [5] by decide)
          have f166 := f119.kx k143 (show (0 : Nat) ∉ [5] by decide)
          have f167 := f120.kx k143 (show (0 : Nat) ∉ [5] by decide) (show (0 : Nat) ∉ [5] by decide) (show (0 : Nat) ∉ [5] by decide)
          have hg : gr_jc n R M u U cs v = gr_wg R M u U i59 none := by unfold gr_jc; simp only [q57]; rw [if_neg (fun h9 => by rw [q137] at h9; cases h9.2), if_neg (fun h9 => hvb10 h9.1)]
          exact pd_iret (v := r139) X w ⟨by rw [hg]; exact e142, pd_kx.tr (pd_kx.mono (us := [5]) (k19) (by simp)) (k143), (by rw [hg]; exact f144)⟩ (by decide) (by decide) d_p1m20_64
        · -- not taken: 44
          have hvb10 : v = 10 := ((pd_Kf_of X).2.2.2.2.2.2 _ 10 hv (by decide) (Option.some.inj q138))
          refine lv_aload_n hx hb d_p1m20_44 rfl (lv_at hl 1 rfl) ?_
          refine pd_get X w f30 rfl 1 (by decide) mT_368 rfl rfl d_p1m20_45 ?_
          refine lv_aload_n hx hb d_p1m20_48 rfl (lv_at hl 0 rfl) ?_
          refine pd_cV (a := cl) (As := [.ref (A i59)]) (rest := []) X w f49 rfl (c_Classes_couldCatchBudget l G h2 (by assumption) (by omega)) ok_Classes_couldCatchBudget ⟨mT_985, mT_986⟩ mT_984 ⟨by decide, by decide⟩ rfl hl.1 rfl (Nat.le_of_ble_eq_true rfl) d_p1m20_49 ⟨by decide, by decide⟩ (fun r168 h169 H locs hp170 w => ?_)
          refine W.widen (k := 2) (n := 64) (by decide) (by decide) ?_
          obtain ⟨e171, rfl⟩ := hp170
          refine pd_beq (tgt := 58) hx hb d_p1m20_52 (by decide) (fun q172 => ?_) (fun q172 => ?_)
          · -- taken: 58
            refine lv_aload_n hx hb d_p1m20_58 rfl (lv_at hl 1 rfl) ?_
            refine lv_aload_n hx hb d_p1m20_59 rfl (lv_at hl 0 rfl) ?_
            refine lv_null hx hb d_p1m20_60 ?_
            refine pd_cV (a := x) (As := [.ref (A i59), .null]) (rest := []) X w f30 rfl (c_PolicyDesk_weigh l G h2 (A := A) (B := B) (C := C) (t0 := t0) (n := n) (R := R) (k := k) (M := M) (u := u) (U := U) (T := T) (kp := kp) (nx := nx) (sp := sp) (an := an) (gn := gn) (sn := sn) (dn := dn) (j := i59) (o := none) (⟨lb, cl, me, ru, bk, f30, hz_x, f34, f35, f36, f37, f38, ht60⟩) (by omega) (fun t ht => by cases ht)) ok_PolicyDesk_weigh ⟨mT_962, sT_10⟩ mT_960 ⟨by decide, by decide⟩ rfl hl.1 rfl (Nat.le_of_ble_eq_true rfl) d_p1m20_61 ⟨by decide, by decide⟩ (fun r173 h174 H locs hp175 w => ?_)
            refine W.widen (k := 2) (n := 64) (by decide) (by decide) ?_
            obtain ⟨e176, k177, f178⟩ := hp175
            have f179 := k177 _ _ f31 (show (0 : Nat) ∉ [5] by decide)
            have f180 := k177 _ _ f32 (show (0 : Nat) ∉ [5] by decide)
            have f181 := k177 _ _ f25 (show (0 : Nat) ∉ [5] by decide)
            have f182 := k177 _ _ f49 (show (6 : Nat) ∉ [5] by decide)
            have f183 := k177 _ _ f118 (show (0 : Nat) ∉ [5] by decide)
            have f184 := k177 _ _ f123 (show (0 : Nat) ∉ [5] by decide)
            have f185 := k177 _ _ f131 (show (0 : Nat) ∉ [5] by decide)
            have f186 := k177 _ _ f33 (show (0 : Nat) ∉ [5] by decide)
            have f187 := k177 _ _ f26 (show (0 : Nat) ∉ [5] by decide)
            have f188 := k177 _ _ f124 (show (0 : Nat) ∉ [5] by decide)
            have f189 := f34.kx k177 (show (1 : Nat) ∉ [5] by decide) (show (2 : Nat) ∉ [5] by decide)
            have f190 := f35.kx k177 (show (6 : Nat) ∉ [5] by decide) (show (10 : Nat) ∉ [5] by decide) (show (0 : Nat) ∉ [5] by decide)
            have f191 := f36.kx k177 (show (11 : Nat) ∉ [5] by decide) (show (12 : Nat) ∉ [5] by decide) (show (0 : Nat) ∉ [5] by decide)
            have f192 := f37.kx k177 (show (13 : Nat) ∉ [5] by decide) (show (14 : Nat) ∉ [5] by decide) (show (0 : Nat) ∉ [5] by decide)
            have f193 := f38.kx k177 (show (15 : Nat) ∉ [5] by decide) (show (16 : Nat) ∉ [5] by decide) (show (17 : Nat) ∉ [5] by decide) (show (3 : Nat) ∉ [5] by decide) (show (4 : Nat) ∉ [5] by decide)
            have f194 := f39.kx k177 (show (0 : Nat) ∉ [5] by decide)
            have f195 := f40.kx k177 (show (0 : Nat) ∉ [5] by decide)
            have f196 := f41.kx k177 (show (0 : Nat) ∉ [5] by decide)
            have f197 := f42.kx k177 (show (0 : Nat) ∉ [5] by decide)
            have f198 := f43.kx k177 (show (0 : Nat) ∉ [5] by decide)
            have f199 := f22.kx k177 (show (0 : Nat) ∉ [5] by decide)
            have f200 := f119.kx k177 (show (0 : Nat) ∉ [5] by decide)
            have f201 := f120.kx k177 (show (0 : Nat) ∉ [5] by decide) (show (0 : Nat) ∉ [5] by decide) (show (0 : Nat) ∉ [5] by decide)
            have hg : gr_jc n R M u U cs v = gr_wg R M u U i59 none := by unfold gr_jc; simp only [q57]; rw [if_neg (fun h9 => by rw [q137] at h9; cases h9.2), if_neg (fun h9 => by rw [← e171, q172] at h9; cases h9.2)]
            exact pd_iret (v := r173) X w ⟨by rw [hg]; exact e176, pd_kx.tr (pd_kx.mono (us := [5]) (k19) (by simp)) (k177), (by rw [hg]; exact f178)⟩ (by decide) (by decide) d_p1m20_64
          · -- not taken: 55
            refine lv_bipush (v := -6) hx hb d_p1m20_55 (by decide) ?_
            have hg : gr_jc n R M u U cs v = (-6, 0) := by unfold gr_jc; simp only [q57]; rw [if_neg (fun h9 => by rw [q137] at h9; cases h9.2), if_pos ⟨hvb10, e171.symm.trans q172⟩]
            exact pd_iret (v := (-6)) X w ⟨by rw [hg], pd_kx.mono (us := [5]) (k19) (by simp), (by rw [hg]; exact ⟨lb, cl, me, ru, bk, f30, hz_x, f34, f35, f36, f37, f38, ht60⟩)⟩ (by decide) (by decide) d_p1m20_57
      · -- not taken: 34
        refine lv_bipush (v := -4) hx hb d_p1m20_34 (by decide) ?_
        have hg : gr_jc n R M u U cs v = (-4, 0) := by unfold gr_jc; simp only [q57]; rw [if_pos ⟨hvb8, q137⟩]
        exact pd_iret (v := (-4)) X w ⟨by rw [hg], pd_kx.mono (us := [5]) (k19) (by simp), (by rw [hg]; exact ⟨lb, cl, me, ru, bk, f30, hz_x, f34, f35, f36, f37, f38, ht60⟩)⟩ (by decide) (by decide) d_p1m20_36
theorem d_p1m21_0 : decode prog_1_method_21_code 0 = .ok (.aload_n 0, 1) := by decide +kernel
theorem d_p1m21_1 : decode prog_1_method_21_code 1 = .ok (.getfield 19, 3) := by decide +kernel
theorem d_p1m21_4 : decode prog_1_method_21_code 4 = .ok (.aload_n 1, 1) := by decide +kernel
theorem d_p1m21_5 : decode prog_1_method_21_code 5 = .ok (.iconst 1, 1) := by decide +kernel
theorem d_p1m21_6 : decode prog_1_method_21_code 6 = .ok (.invokevirtual 73, 3) := by decide +kernel
theorem d_p1m21_9 : decode prog_1_method_21_code 9 = .ok (.invokestatic 211, 3) := by decide +kernel
theorem d_p1m21_12 : decode prog_1_method_21_code 12 = .ok (.invokevirtual 197, 3) := by decide +kernel
theorem d_p1m21_15 : decode prog_1_method_21_code 15 = .ok (.astore_n 3, 1) := by decide +kernel
theorem d_p1m21_16 : decode prog_1_method_21_code 16 = .ok (.aload_n 3, 1) := by decide +kernel
theorem d_p1m21_17 : decode prog_1_method_21_code 17 = .ok (.ifnonnull 6, 3) := by decide +kernel
theorem d_p1m21_20 : decode prog_1_method_21_code 20 = .ok (.bipush (-2), 2) := by decide +kernel
theorem d_p1m21_22 : decode prog_1_method_21_code 22 = .ok (.ireturn, 1) := by decide +kernel
theorem d_p1m21_23 : decode prog_1_method_21_code 23 = .ok (.aload_n 1, 1) := by decide +kernel
theorem d_p1m21_24 : decode prog_1_method_21_code 24 = .ok (.iconst 1, 1) := by decide +kernel
theorem d_p1m21_25 : decode prog_1_method_21_code 25 = .ok (.invokevirtual 73, 3) := by decide +kernel
theorem d_p1m21_28 : decode prog_1_method_21_code 28 = .ok (.invokestatic 215, 3) := by decide +kernel
theorem d_p1m21_31 : decode prog_1_method_21_code 31 = .ok (.astore 4, 2) := by decide +kernel
theorem d_p1m21_33 : decode prog_1_method_21_code 33 = .ok (.aload_n 1, 1) := by decide +kernel
theorem d_p1m21_34 : decode prog_1_method_21_code 34 = .ok (.iconst 2, 1) := by decide +kernel
theorem d_p1m21_35 : decode prog_1_method_21_code 35 = .ok (.invokevirtual 73, 3) := by decide +kernel
theorem d_p1m21_38 : decode prog_1_method_21_code 38 = .ok (.astore 5, 2) := by decide +kernel
theorem d_p1m21_40 : decode prog_1_method_21_code 40 = .ok (.aload_n 2, 1) := by decide +kernel
theorem d_p1m21_41 : decode prog_1_method_21_code 41 = .ok (.getstatic 264, 3) := by decide +kernel
theorem d_p1m21_44 : decode prog_1_method_21_code 44 = .ok (.if_acmp .ne 7, 3) := by decide +kernel
theorem d_p1m21_47 : decode prog_1_method_21_code 47 = .ok (.iconst 1, 1) := by decide +kernel
theorem d_p1m21_48 : decode prog_1_method_21_code 48 = .ok (.goto 4, 3) := by decide +kernel
theorem d_p1m21_51 : decode prog_1_method_21_code 51 = .ok (.iconst 0, 1) := by decide +kernel
theorem d_p1m21_52 : decode prog_1_method_21_code 52 = .ok (.istore 6, 2) := by decide +kernel
theorem d_p1m21_54 : decode prog_1_method_21_code 54 = .ok (.iload 6, 2) := by decide +kernel
theorem d_p1m21_56 : decode prog_1_method_21_code 56 = .ok (.ifCond .eq 18, 3) := by decide +kernel
theorem d_p1m21_59 : decode prog_1_method_21_code 59 = .ok (.aload_n 0, 1) := by decide +kernel
theorem d_p1m21_60 : decode prog_1_method_21_code 60 = .ok (.getfield 26, 3) := by decide +kernel
theorem d_p1m21_63 : decode prog_1_method_21_code 63 = .ok (.aload_n 3, 1) := by decide +kernel
theorem d_p1m21_64 : decode prog_1_method_21_code 64 = .ok (.aload 4, 2) := by decide +kernel
theorem d_p1m21_66 : decode prog_1_method_21_code 66 = .ok (.aload 5, 2) := by decide +kernel
theorem d_p1m21_68 : decode prog_1_method_21_code 68 = .ok (.invokevirtual 292, 3) := by decide +kernel
theorem d_p1m21_71 : decode prog_1_method_21_code 71 = .ok (.goto 15, 3) := by decide +kernel
theorem d_p1m21_74 : decode prog_1_method_21_code 74 = .ok (.aload_n 0, 1) := by decide +kernel
theorem d_p1m21_75 : decode prog_1_method_21_code 75 = .ok (.getfield 26, 3) := by decide +kernel
theorem d_p1m21_78 : decode prog_1_method_21_code 78 = .ok (.aload_n 3, 1) := by decide +kernel
theorem d_p1m21_79 : decode prog_1_method_21_code 79 = .ok (.aload 4, 2) := by decide +kernel
theorem d_p1m21_81 : decode prog_1_method_21_code 81 = .ok (.aload 5, 2) := by decide +kernel
theorem d_p1m21_83 : decode prog_1_method_21_code 83 = .ok (.invokevirtual 295, 3) := by decide +kernel
theorem d_p1m21_86 : decode prog_1_method_21_code 86 = .ok (.astore 7, 2) := by decide +kernel
theorem d_p1m21_88 : decode prog_1_method_21_code 88 = .ok (.aload 7, 2) := by decide +kernel
theorem d_p1m21_90 : decode prog_1_method_21_code 90 = .ok (.ifnonnull 6, 3) := by decide +kernel
theorem d_p1m21_93 : decode prog_1_method_21_code 93 = .ok (.bipush (-2), 2) := by decide +kernel
theorem d_p1m21_95 : decode prog_1_method_21_code 95 = .ok (.ireturn, 1) := by decide +kernel
theorem d_p1m21_96 : decode prog_1_method_21_code 96 = .ok (.iload 6, 2) := by decide +kernel
theorem d_p1m21_98 : decode prog_1_method_21_code 98 = .ok (.ifCond .eq 26, 3) := by decide +kernel
theorem d_p1m21_101 : decode prog_1_method_21_code 101 = .ok (.aload_n 0, 1) := by decide +kernel
theorem d_p1m21_102 : decode prog_1_method_21_code 102 = .ok (.getfield 33, 3) := by decide +kernel
theorem d_p1m21_105 : decode prog_1_method_21_code 105 = .ok (.getstatic 236, 3) := by decide +kernel
theorem d_p1m21_108 : decode prog_1_method_21_code 108 = .ok (.getstatic 236, 3) := by decide +kernel
theorem d_p1m21_111 : decode prog_1_method_21_code 111 = .ok (.aload 7, 2) := by decide +kernel
theorem d_p1m21_113 : decode prog_1_method_21_code 113 = .ok (.getfield 155, 3) := by decide +kernel
theorem d_p1m21_116 : decode prog_1_method_21_code 116 = .ok (.aload 7, 2) := by decide +kernel
theorem d_p1m21_118 : decode prog_1_method_21_code 118 = .ok (.invokevirtual 298, 3) := by decide +kernel
theorem d_p1m21_121 : decode prog_1_method_21_code 121 = .ok (.goto 4, 3) := by decide +kernel
theorem d_p1m21_124 : decode prog_1_method_21_code 124 = .ok (.aconst_null, 1) := by decide +kernel
theorem d_p1m21_125 : decode prog_1_method_21_code 125 = .ok (.astore 8, 2) := by decide +kernel
theorem d_p1m21_127 : decode prog_1_method_21_code 127 = .ok (.aload 8, 2) := by decide +kernel
theorem d_p1m21_129 : decode prog_1_method_21_code 129 = .ok (.ifnull 34, 3) := by decide +kernel
theorem d_p1m21_132 : decode prog_1_method_21_code 132 = .ok (.aload 8, 2) := by decide +kernel
theorem d_p1m21_134 : decode prog_1_method_21_code 134 = .ok (.getfield 302, 3) := by decide +kernel
theorem d_p1m21_137 : decode prog_1_method_21_code 137 = .ok (.ifnull 26, 3) := by decide +kernel
theorem d_p1m21_140 : decode prog_1_method_21_code 140 = .ok (.aload_n 0, 1) := by decide +kernel
theorem d_p1m21_141 : decode prog_1_method_21_code 141 = .ok (.dup, 1) := by decide +kernel
theorem d_p1m21_142 : decode prog_1_method_21_code 142 = .ok (.getfield 193, 3) := by decide +kernel
theorem d_p1m21_145 : decode prog_1_method_21_code 145 = .ok (.iconst 1, 1) := by decide +kernel
theorem d_p1m21_146 : decode prog_1_method_21_code 146 = .ok (.iadd, 1) := by decide +kernel
theorem d_p1m21_147 : decode prog_1_method_21_code 147 = .ok (.putfield 193, 3) := by decide +kernel
theorem d_p1m21_150 : decode prog_1_method_21_code 150 = .ok (.sipush 10000, 3) := by decide +kernel
theorem d_p1m21_153 : decode prog_1_method_21_code 153 = .ok (.aload 8, 2) := by decide +kernel
theorem d_p1m21_155 : decode prog_1_method_21_code 155 = .ok (.getfield 302, 3) := by decide +kernel
theorem d_p1m21_158 : decode prog_1_method_21_code 158 = .ok (.getfield 308, 3) := by decide +kernel
theorem d_p1m21_161 : decode prog_1_method_21_code 161 = .ok (.iadd, 1) := by decide +kernel
theorem d_p1m21_162 : decode prog_1_method_21_code 162 = .ok (.ireturn, 1) := by decide +kernel
theorem d_p1m21_163 : decode prog_1_method_21_code 163 = .ok (.aload_n 0, 1) := by decide +kernel
theorem d_p1m21_164 : decode prog_1_method_21_code 164 = .ok (.aload 7, 2) := by decide +kernel
theorem d_p1m21_166 : decode prog_1_method_21_code 166 = .ok (.getfield 155, 3) := by decide +kernel
theorem d_p1m21_169 : decode prog_1_method_21_code 169 = .ok (.aload 7, 2) := by decide +kernel
theorem d_p1m21_171 : decode prog_1_method_21_code 171 = .ok (.invokevirtual 288, 3) := by decide +kernel
theorem d_p1m21_174 : decode prog_1_method_21_code 174 = .ok (.ireturn, 1) := by decide +kernel
abbrev y_PolicyDesk_judgeMember : MethodName := ⟨"PolicyDesk", "judgeMember", "(LPolicyDesk$Line;LPolicyDesk$Verb;)I"⟩
theorem ok_PolicyDesk_judgeMember : pd_ok y_PolicyDesk_judgeMember prog_1_method_21_code 9 (some .int) 2 := ⟨mT_931, mT_1, by decide, by decide +kernel⟩
abbrev rm_PolicyDesk_judgeMember : Room := { frames := 8, cells := 10, slots := 320, locals := 183 }
set_option maxHeartbeats 4000000 in
set_option maxRecDepth 100000 in
theorem c_PolicyDesk_judgeMember (l : Launch) (G : pd_G) (h : pd_H) {x : Nat} {A B C : Nat → Nat} {t0 : List Nat} {n : Nat} {R : Nat → pd_cr} {k : Nat} {M : Nat → pd_mr} {u : Nat} {U : Nat → pd_rr} {T : Nat → List Nat} {kp nx : Nat} {sp : Int64} {an gn sn dn : Nat} {y v : Nat} {cs : List Nat} (hD : pd_DX G h x A B C t0 n R k M u U T kp nx sp an gn sn dn) (hL : pd_Ln h y cs) (hv : v < 13) : pd_M l y_PolicyDesk_judgeMember prog_1_method_21_code 9 (some .int) rm_PolicyDesk_judgeMember G h [.ref x, .ref y, .ref (G.2.2.2 (10 + v))] Value.int (fun r h1 => r = (gr_jm n R k M u U cs v).1 ∧ pd_kx [5] h h1 ∧ pd_DX G h1 x A B C t0 n R k M u U T kp nx sp an gn sn (dn + (gr_jm n R k M u U cs v).2)) := by
  refine pd_M.of (by decide) (Nat.le_of_ble_eq_true rfl) ?_
  intro p e s m below meth c X hmn w ls hl
  have hx := X.1
  have hb := X.2.1
  have hl : lv_has ls 9 [(0, .ref x), (1, .ref y), (2, .ref (G.2.2.2 (10 + v)))] := hl
  obtain ⟨lb, cl, me, ru, bk, hx0, hz_x, hsb, hC, hM, hU, hA, ht60⟩ := id hD
  have hR := hC.rows
  have hMR := hM.mrows
  have hRR := hU.rrows
  have hcw := hR.2.2
  have hAi := hR.2.1
  have hn14 := hcw.1
  have ht21 : (2 : Nat) ≠ 1 := by decide
  have ht10 : (1 : Nat) ≠ 0 := by decide
  have ht20 : (2 : Nat) ≠ 0 := by decide
  refine lv_aload_n hx hb d_p1m21_0 rfl (lv_at hl 0 rfl) ?_
  refine pd_get X w hx0 rfl 1 (by decide) mT_368 rfl rfl d_p1m21_1 ?_
  refine lv_aload_n hx hb d_p1m21_4 rfl (lv_at hl 1 rfl) ?_
  refine lv_iconst (v := nI 1) hx hb d_p1m21_5 (by decide) ?_
  obtain ⟨a4, st5, fA6, f7, f8, nu9, f10⟩ := id hL
  have hc11 := (gr_cut_ok cs).1
  obtain ⟨v12, g13, f14, f15, gf16, gc17, gl18⟩ := id f10
  refine pd_cV (a := y) (As := [.int (nI 1)]) (rest := [.ref cl]) X w f7 rfl (c_Line_word l G h (by assumption) (by omega)) ok_Line_word ⟨mT_574, mT_575⟩ mT_573 ⟨by decide, by decide⟩ rfl hl.1 rfl (Nat.le_of_ble_eq_true rfl) d_p1m21_6 ⟨by decide, by decide⟩ (fun r1 h2 H locs hp3 w => ?_)
  refine W.widen (k := 2) (n := 64) (by decide) (by decide) ?_
  obtain ⟨k19, ds20, e21, f22⟩ := hp3
  have f30 := k19 _ _ hx0 List.not_mem_nil
  have f31 := k19 _ _ f7 List.not_mem_nil
  have f32 := k19 _ _ f14 List.not_mem_nil
  have f33 := k19 _ _ f15 List.not_mem_nil
  have f34 := hsb.kx k19 List.not_mem_nil List.not_mem_nil
  have f35 := hC.kx k19 List.not_mem_nil List.not_mem_nil List.not_mem_nil
  have f36 := hM.kx k19 List.not_mem_nil List.not_mem_nil List.not_mem_nil
  have f37 := hU.kx k19 List.not_mem_nil List.not_mem_nil List.not_mem_nil
  have f38 := hA.kx k19 List.not_mem_nil List.not_mem_nil List.not_mem_nil List.not_mem_nil List.not_mem_nil
  have f39 := hR.kx k19 List.not_mem_nil
  have f40 := hMR.kx k19 List.not_mem_nil
  have f41 := hRR.kx k19 List.not_mem_nil
  have f42 := hL.kx k19 List.not_mem_nil
  have f43 := f10.kx k19 List.not_mem_nil
  obtain ⟨v23, g24, f25, f26, gf27, gc28, gl29⟩ := id f22
  subst e21
  refine pd_cS (As := [.ref r1]) (rest := [.ref cl]) X w (c_Grammar_beforeDot l G h2 (by assumption)) ok_Grammar_beforeDot mT_714 mT_788 ⟨by decide, by decide⟩ rfl hl.1 rfl (Nat.le_of_ble_eq_true rfl) d_p1m21_9 ⟨by decide, by decide⟩ (fun r44 h45 H locs hp46 w => ?_)
  refine W.widen (k := 4) (n := 128) (by decide) (by decide) ?_
  obtain ⟨k47, ds48, e49, f50⟩ := hp46
  have f58 := k47 _ _ f30 List.not_mem_nil
  have f59 := k47 _ _ f31 List.not_mem_nil
  have f60 := k47 _ _ f32 List.not_mem_nil
  have f61 := k47 _ _ f25 List.not_mem_nil
  have f62 := k47 _ _ f33 List.not_mem_nil
  have f63 := k47 _ _ f26 List.not_mem_nil
  have f64 := f34.kx k47 List.not_mem_nil List.not_mem_nil
  have f65 := f35.kx k47 List.not_mem_nil List.not_mem_nil List.not_mem_nil
  have f66 := f36.kx k47 List.not_mem_nil List.not_mem_nil List.not_mem_nil
  have f67 := f37.kx k47 List.not_mem_nil List.not_mem_nil List.not_mem_nil
  have f68 := f38.kx k47 List.not_mem_nil List.not_mem_nil List.not_mem_nil List.not_mem_nil List.not_mem_nil
  have f69 := f39.kx k47 List.not_mem_nil
  have f70 := f40.kx k47 List.not_mem_nil
  have f71 := f41.kx k47 List.not_mem_nil
  have f72 := f42.kx k47 List.not_mem_nil
  have f73 := f43.kx k47 List.not_mem_nil
  have f74 := f22.kx k47 List.not_mem_nil
  obtain ⟨v51, g52, f53, f54, gf55, gc56, gl57⟩ := id f50
  subst e49
  obtain ⟨ar78, g79, f80, f81, g82, hz83, hz84, z85, f86⟩ := id f65
  refine pd_cV (a := cl) (As := [.ref r44]) (rest := []) X w f80 rfl (c_Classes_find l G h45 (by assumption) (by assumption)) ok_Classes_find ⟨mT_773, mT_774⟩ mT_772 ⟨by decide, by decide⟩ rfl hl.1 rfl (Nat.le_of_ble_eq_true rfl) d_p1m21_12 ⟨by decide, by decide⟩ (fun r75 h76 H locs hp77 w => ?_)
  refine W.widen (k := 4) (n := 128) (by decide) (by decide) ?_
  obtain ⟨e87, rfl⟩ := hp77
  refine pd_ostore_n (lv' := [(3, va_rf r75), (0, .ref x), (1, .ref y), (2, .ref (G.2.2.2 (10 + v)))]) hx hb d_p1m21_15 rfl hl (by decide) rfl (fun ls hl => ?_)
  refine pd_oload_n hx hb d_p1m21_16 rfl (lv_at hl 0 rfl) ?_
  rcases pd_om e87 with ⟨q88, q91⟩ | ⟨i90, q88, q91⟩
  · -- none
    refine pd_top (v' := .null) (by rw [q91]; rfl) ?_
    rw [q91] at hl
    have hl : lv_has ls 9 [(3, .null), (0, .ref x), (1, .ref y), (2, .ref (G.2.2.2 (10 + v)))] := hl
    refine lv_ifnonnullN hx hb d_p1m21_17 ?_
    refine lv_bipush (v := -2) hx hb d_p1m21_20 (by decide) ?_
    have hg : gr_jm n R k M u U cs v = (-2, 0) := by unfold gr_jm; simp only [q88]
    exact pd_iret (v := (-2)) X w ⟨by rw [hg], pd_kx.mono (us := [5]) (pd_kx.tr (k19) (k47)) (by simp), (by rw [hg]; exact ⟨lb, cl, me, ru, bk, f58, hz_x, f64, f65, f66, f67, f68, ht60⟩)⟩ (by decide) (by decide) d_p1m21_22
  · -- some
    refine pd_top (v' := .ref (A i90)) (by rw [q91]; rfl) ?_
    rw [q91] at hl
    have hl : lv_has ls 9 [(3, .ref (A i90)), (0, .ref x), (1, .ref y), (2, .ref (G.2.2.2 (10 + v)))] := hl
    have i90lt := gr_fi_lt q88
    refine lv_ifnonnull (tgt := 23) hx hb d_p1m21_17 (by decide) ?_
    refine lv_aload_n hx hb d_p1m21_23 rfl (lv_at hl 2 rfl) ?_
    refine lv_iconst (v := nI 1) hx hb d_p1m21_24 (by decide) ?_
    refine pd_cV (a := y) (As := [.int (nI 1)]) (rest := []) X w f59 rfl (c_Line_word l G h45 (by assumption) (by omega)) ok_Line_word ⟨mT_574, mT_575⟩ mT_573 ⟨by decide, by decide⟩ rfl hl.1 rfl (Nat.le_of_ble_eq_true rfl) d_p1m21_25 ⟨by decide, by decide⟩ (fun r94 h95 H locs hp96 w => ?_)
    refine W.widen (k := 6) (n := 192) (by decide) (by decide) ?_
    obtain ⟨k97, ds98, e99, f100⟩ := hp96
    have f108 := k97 _ _ f58 List.not_mem_nil
    have f109 := k97 _ _ f59 List.not_mem_nil
    have f110 := k97 _ _ f60 List.not_mem_nil
    have f111 := k97 _ _ f61 List.not_mem_nil
    have f112 := k97 _ _ f53 List.not_mem_nil
    have f113 := k97 _ _ f80 List.not_mem_nil
    have f114 := k97 _ _ f62 List.not_mem_nil
    have f115 := k97 _ _ f63 List.not_mem_nil
    have f116 := k97 _ _ f54 List.not_mem_nil
    have f117 := f64.kx k97 List.not_mem_nil List.not_mem_nil
    have f118 := f65.kx k97 List.not_mem_nil List.not_mem_nil List.not_mem_nil
    have f119 := f66.kx k97 List.not_mem_nil List.not_mem_nil List.not_mem_nil
    have f120 := f67.kx k97 List.not_mem_nil List.not_mem_nil List.not_mem_nil
    have f121 := f68.kx k97 List.not_mem_nil List.not_mem_nil List.not_mem_nil List.not_mem_nil List.not_mem_nil
    have f122 := f69.kx k97 List.not_mem_nil
    have f123 := f70.kx k97 List.not_mem_nil
    have f124 := f71.kx k97 List.not_mem_nil
    have f125 := f72.kx k97 List.not_mem_nil
    have f126 := f73.kx k97 List.not_mem_nil
    have f127 := f74.kx k97 List.not_mem_nil
    have f128 := f50.kx k97 List.not_mem_nil
    obtain ⟨v101, g102, f103, f104, gf105, gc106, gl107⟩ := id f100
    subst e99
    refine pd_cS (As := [.ref r94]) (rest := []) X w (c_Grammar_afterDot l G h95 (by assumption)) ok_Grammar_afterDot mT_649 mT_789 ⟨by decide, by decide⟩ rfl hl.1 rfl (Nat.le_of_ble_eq_true rfl) d_p1m21_28 ⟨by decide, by decide⟩ (fun r129 h130 H locs hp131 w => ?_)
    refine W.widen (k := 8) (n := 256) (by decide) (by decide) ?_
    obtain ⟨k132, ds133, e134, f135⟩ := hp131
    have f143 := k132 _ _ f108 List.not_mem_nil
    have f144 := k132 _ _ f109 List.not_mem_nil
    have f145 := k132 _ _ f110 List.not_mem_nil
    have f146 := k132 _ _ f111 List.not_mem_nil
    have f147 := k132 _ _ f112 List.not_mem_nil
    have f148 := k132 _ _ f113 List.not_mem_nil
    have f149 := k132 _ _ f103 List.not_mem_nil
    have f150 := k132 _ _ f114 List.not_mem_nil
    have f151 := k132 _ _ f115 List.not_mem_nil
    have f152 := k132 _ _ f116 List.not_mem_nil
    have f153 := k132 _ _ f104 List.not_mem_nil
    have f154 := f117.kx k132 List.not_mem_nil List.not_mem_nil
    have f155 := f118.kx k132 List.not_mem_nil List.not_mem_nil List.not_mem_nil
    have f156 := f119.kx k132 List.not_mem_nil List.not_mem_nil List.not_mem_nil
    have f157 := f120.kx k132 List.not_mem_nil List.not_mem_nil List.not_mem_nil
    have f158 := f121.kx k132 List.not_mem_nil List.not_mem_nil List.not_mem_nil List.not_mem_nil List.not_mem_nil
    have f159 := f122.kx k132 List.not_mem_nil
    have f160 := f123.kx k132 List.not_mem_nil
    have f161 := f124.kx k132 List.not_mem_nil
    have f162 := f125.kx k132 List.not_mem_nil
    have f163 := f126.kx k132 List.not_mem_nil
    have f164 := f127.kx k132 List.not_mem_nil
    have f165 := f128.kx k132 List.not_mem_nil
    have f166 := f100.kx k132 List.not_mem_nil
    obtain ⟨v136, g137, f138, f139, gf140, gc141, gl142⟩ := id f135
    subst e134
    refine lv_astore (lv' := [(4, .ref r129), (3, .ref (A i90)), (0, .ref x), (1, .ref y), (2, .ref (G.2.2.2 (10 + v)))]) hx hb d_p1m21_31 hl (by decide) rfl (fun ls hl => ?_)
    refine lv_aload_n hx hb d_p1m21_33 rfl (lv_at hl 3 rfl) ?_
    refine lv_iconst (v := nI 2) hx hb d_p1m21_34 (by decide) ?_
    refine pd_cV (a := y) (As := [.int (nI 2)]) (rest := []) X w f144 rfl (c_Line_word l G h130 (by assumption) (by omega)) ok_Line_word ⟨mT_574, mT_575⟩ mT_573 ⟨by decide, by decide⟩ rfl hl.1 rfl (Nat.le_of_ble_eq_true rfl) d_p1m21_35 ⟨by decide, by decide⟩ (fun r167 h168 H locs hp169 w => ?_)
    refine W.widen (k := 10) (n := 320) (by decide) (by decide) ?_
    obtain ⟨k170, ds171, e172, f173⟩ := hp169
    have f181 := k170 _ _ f143 List.not_mem_nil
    have f182 := k170 _ _ f144 List.not_mem_nil
    have f183 := k170 _ _ f145 List.not_mem_nil
    have f184 := k170 _ _ f146 List.not_mem_nil
    have f185 := k170 _ _ f147 List.not_mem_nil
    have f186 := k170 _ _ f148 List.not_mem_nil
    have f187 := k170 _ _ f149 List.not_mem_nil
    have f188 := k170 _ _ f138 List.not_mem_nil
    have f189 := k170 _ _ f150 List.not_mem_nil
    have f190 := k170 _ _ f151 List.not_mem_nil
    have f191 := k170 _ _ f152 List.not_mem_nil
    have f192 := k170 _ _ f153 List.not_mem_nil
    have f193 := k170 _ _ f139 List.not_mem_nil
    have f194 := f154.kx k170 List.not_mem_nil List.not_mem_nil
    have f195 := f155.kx k170 List.not_mem_nil List.not_mem_nil List.not_mem_nil
    have f196 := f156.kx k170 List.not_mem_nil List.not_mem_nil List.not_mem_nil
    have f197 := f157.kx k170 List.not_mem_nil List.not_mem_nil List.not_mem_nil
    have f198 := f158.kx k170 List.not_mem_nil List.not_mem_nil List.not_mem_nil List.not_mem_nil List.not_mem_nil
    have f199 := f159.kx k170 List.not_mem_nil
    have f200 := f160.kx k170 List.not_mem_nil
    have f201 := f161.kx k170 List.not_mem_nil
    have f202 := f162.kx k170 List.not_mem_nil
    have f203 := f163.kx k170 List.not_mem_nil
    have f204 := f164.kx k170 List.not_mem_nil
    have f205 := f165.kx k170 List.not_mem_nil
    have f206 := f166.kx k170 List.not_mem_nil
    have f207 := f135.kx k170 List.not_mem_nil
    obtain ⟨v174, g175, f176, f177, gf178, gc179, gl180⟩ := id f173
    subst e172
    refine lv_astore (lv' := [(5, .ref r167), (4, .ref r129), (3, .ref (A i90)), (0, .ref x), (1, .ref y), (2, .ref (G.2.2.2 (10 + v)))]) hx hb d_p1m21_38 hl (by decide) rfl (fun ls hl => ?_)
    refine lv_aload_n hx hb d_p1m21_40 rfl (lv_at hl 5 rfl) ?_
    refine pd_gets X w (List.mem_of_getElem? (i := 18) rfl) mT_926 d_p1m21_41 ?_
    refine lv_acmp_ne (rx := (some (G.2.2.2 (10 + v)))) (ry := (some (G.2.2.2 22))) (tgt := 51) hx hb d_p1m21_44 (by decide) (fun q208 => ?_) (fun q208 => ?_)
    · -- taken: 51
      have hvb12 : ¬ v = 12 := (fun e9 => q208 (by rw [e9]))
      refine lv_iconst (v := nI 0) hx hb d_p1m21_51 (by decide) ?_
      refine lv_istore (lv' := [(6, .int (nI 0)), (5, .ref r167), (4, .ref r129), (3, .ref (A i90)), (0, .ref x), (1, .ref y), (2, .ref (G.2.2.2 (10 + v)))]) hx hb d_p1m21_52 hl (by decide) rfl (fun ls hl => ?_)
      refine lv_iload hx hb d_p1m21_54 (lv_at hl 0 rfl) ?_
      refine pd_zeq (tgt := 74) hx hb d_p1m21_56 (by decide) (by decide) (fun _ => ?_) (fun q => absurd q (by decide))
      refine lv_aload_n hx hb d_p1m21_74 rfl (lv_at hl 4 rfl) ?_
      refine pd_get X w f181 rfl 2 (by decide) mT_369 rfl rfl d_p1m21_75 ?_
      refine lv_aload_n hx hb d_p1m21_78 rfl (lv_at hl 3 rfl) ?_
      refine lv_aload hx hb d_p1m21_79 (lv_at hl 2 rfl) ?_
      refine lv_aload hx hb d_p1m21_81 (lv_at hl 1 rfl) ?_
      obtain ⟨ar213, g214, f215, f216, g217, hz218, hz219, z220, f221⟩ := id f196
      refine pd_cV (a := me) (As := [.ref (A i90), .ref r129, .ref r167]) (rest := []) X w f215 rfl (c_Members_findField l G h168 (by assumption) (by assumption) (by omega) (by assumption) (by assumption)) ok_Members_findField ⟨mT_945, mT_946⟩ mT_944 ⟨by decide, by decide⟩ rfl hl.1 rfl (Nat.le_of_ble_eq_true rfl) d_p1m21_83 ⟨by decide, by decide⟩ (fun r210 h211 H locs hp212 w => ?_)
      refine W.widen (k := 10) (n := 320) (by decide) (by decide) ?_
      obtain ⟨e222, rfl⟩ := hp212
      refine pd_ostore (lv' := [(7, va_rf r210), (6, .int (nI 0)), (5, .ref r167), (4, .ref r129), (3, .ref (A i90)), (0, .ref x), (1, .ref y), (2, .ref (G.2.2.2 (10 + v)))]) hx hb d_p1m21_86 hl (by decide) rfl (fun ls hl => ?_)
      refine pd_oload hx hb d_p1m21_88 (lv_at hl 0 rfl) ?_
      rcases pd_om e222 with ⟨q223, q226⟩ | ⟨i225, q223, q226⟩
      · -- none
        refine pd_top (v' := .null) (by rw [q226]; rfl) ?_
        rw [q226] at hl
        have hl : lv_has ls 9 [(7, .null), (6, .int (nI 0)), (5, .ref r167), (4, .ref r129), (3, .ref (A i90)), (0, .ref x), (1, .ref y), (2, .ref (G.2.2.2 (10 + v)))] := hl
        refine lv_ifnonnullN hx hb d_p1m21_90 ?_
        have hfn : gr_fnd R k M cs v i90 = none := by unfold gr_fnd; rw [if_neg hvb12]; exact q223
        refine lv_bipush (v := -2) hx hb d_p1m21_93 (by decide) ?_
        have hg : gr_jm n R k M u U cs v = (-2, 0) := by unfold gr_jm; simp only [q88, hfn]
        exact pd_iret (v := (-2)) X w ⟨by rw [hg], pd_kx.mono (us := [5]) (pd_kx.tr (pd_kx.tr (pd_kx.tr (pd_kx.tr (k19) (k47)) (k97)) (k132)) (k170)) (by simp), (by rw [hg]; exact ⟨lb, cl, me, ru, bk, f181, hz_x, f194, f195, f196, f197, f198, ht60⟩)⟩ (by decide) (by decide) d_p1m21_95
      · -- some
        refine pd_top (v' := .ref (B i225)) (by rw [q226]; rfl) ?_
        rw [q226] at hl
        have hl : lv_has ls 9 [(7, .ref (B i225)), (6, .int (nI 0)), (5, .ref r167), (4, .ref r129), (3, .ref (A i90)), (0, .ref x), (1, .ref y), (2, .ref (G.2.2.2 (10 + v)))] := hl
        have i225lt := gr_ff_lt q223
        refine lv_ifnonnull (tgt := 96) hx hb d_p1m21_90 (by decide) ?_
        have hfn : gr_fnd R k M cs v i90 = some i225 := by unfold gr_fnd; rw [if_neg hvb12]; exact q223
        refine lv_iload hx hb d_p1m21_96 (lv_at hl 1 rfl) ?_
        refine pd_zeq (tgt := 124) hx hb d_p1m21_98 (by decide) (by decide) (fun _ => ?_) (fun q => absurd q (by decide))
        refine lv_null hx hb d_p1m21_124 ?_
        refine lv_astoreN (lv' := [(8, .null), (7, .ref (B i225)), (6, .int (nI 0)), (5, .ref r167), (4, .ref r129), (3, .ref (A i90)), (0, .ref x), (1, .ref y), (2, .ref (G.2.2.2 (10 + v)))]) hx hb d_p1m21_125 hl (by decide) rfl (fun ls hl => ?_)
        refine lv_aloadN hx hb d_p1m21_127 (lv_at hl 0 rfl) ?_
        refine lv_ifnullN (tgt := 163) hx hb d_p1m21_129 (by decide) ?_
        refine lv_aload_n hx hb d_p1m21_163 rfl (lv_at hl 6 rfl) ?_
        refine lv_aload hx hb d_p1m21_164 (lv_at hl 1 rfl) ?_
        obtain ⟨⟨nm231, sh232, f233, f234, f235⟩, z236, z237⟩ := f200 i225 (by omega)
        obtain ⟨v238, g239, f240, f241, gf242, gc243, gl244⟩ := id f234
        obtain ⟨v245, g246, f247, f248, gf249, gc250, gl251⟩ := id f235
        refine pd_get X w f233 rfl 1 (by decide) mT_815 rfl rfl d_p1m21_166 ?_
        refine lv_aload hx hb d_p1m21_169 (lv_at hl 1 rfl) ?_
        refine pd_cV (a := x) (As := [.ref (A (M i225).1), .ref (B i225)]) (rest := []) X w f181 rfl (c_PolicyDesk_weigh l G h168 (A := A) (B := B) (C := C) (t0 := t0) (n := n) (R := R) (k := k) (M := M) (u := u) (U := U) (T := T) (kp := kp) (nx := nx) (sp := sp) (an := an) (gn := gn) (sn := sn) (dn := dn) (j := ((M i225).1)) (o := some i225) (⟨lb, cl, me, ru, bk, f181, hz_x, f194, f195, f196, f197, f198, ht60⟩) (by omega) (fun t ht => by cases ht; omega)) ok_PolicyDesk_weigh ⟨mT_962, sT_10⟩ mT_960 ⟨by decide, by decide⟩ rfl hl.1 rfl (Nat.le_of_ble_eq_true rfl) d_p1m21_171 ⟨by decide, by decide⟩ (fun r252 h253 H locs hp254 w => ?_)
        refine W.widen (k := 10) (n := 320) (by decide) (by decide) ?_
        obtain ⟨e255, k256, f257⟩ := hp254
        have f258 := k256 _ _ f182 (show (0 : Nat) ∉ [5] by decide)
        have f259 := k256 _ _ f183 (show (0 : Nat) ∉ [5] by decide)
        have f260 := k256 _ _ f184 (show (0 : Nat) ∉ [5] by decide)
        have f261 := k256 _ _ f185 (show (0 : Nat) ∉ [5] by decide)
        have f262 := k256 _ _ f186 (show (6 : Nat) ∉ [5] by decide)
        have f263 := k256 _ _ f187 (show (0 : Nat) ∉ [5] by decide)
        have f264 := k256 _ _ f188 (show (0 : Nat) ∉ [5] by decide)
        have f265 := k256 _ _ f176 (show (0 : Nat) ∉ [5] by decide)
        have f266 := k256 _ _ f215 (show (11 : Nat) ∉ [5] by decide)
        have f267 := k256 _ _ f233 (show (0 : Nat) ∉ [5] by decide)
        have f268 := k256 _ _ f240 (show (0 : Nat) ∉ [5] by decide)
        have f269 := k256 _ _ f247 (show (0 : Nat) ∉ [5] by decide)
        have f270 := k256 _ _ f189 (show (0 : Nat) ∉ [5] by decide)
        have f271 := k256 _ _ f190 (show (0 : Nat) ∉ [5] by decide)
        have f272 := k256 _ _ f191 (show (0 : Nat) ∉ [5] by decide)
        have f273 := k256 _ _ f192 (show (0 : Nat) ∉ [5] by decide)
        have f274 := k256 _ _ f193 (show (0 : Nat) ∉ [5] by decide)
        have f275 := k256 _ _ f177 (show (0 : Nat) ∉ [5] by decide)
        have f276 := k256 _ _ f241 (show (0 : Nat) ∉ [5] by decide)
        have f277 := k256 _ _ f248 (show (0 : Nat) ∉ [5] by decide)
        have f278 := f194.kx k256 (show (1 : Nat) ∉ [5] by decide) (show (2 : Nat) ∉ [5] by decide)
        have f279 := f195.kx k256 (show (6 : Nat) ∉ [5] by decide) (show (10 : Nat) ∉ [5] by decide) (show (0 : Nat) ∉ [5] by decide)
        have f280 := f196.kx k256 (show (11 : Nat) ∉ [5] by decide) (show (12 : Nat) ∉ [5] by decide) (show (0 : Nat) ∉ [5] by decide)
        have f281 := f197.kx k256 (show (13 : Nat) ∉ [5] by decide) (show (14 : Nat) ∉ [5] by decide) (show (0 : Nat) ∉ [5] by decide)
        have f282 := f198.kx k256 (show (15 : Nat) ∉ [5] by decide) (show (16 : Nat) ∉ [5] by decide) (show (17 : Nat) ∉ [5] by decide) (show (3 : Nat) ∉ [5] by decide) (show (4 : Nat) ∉ [5] by decide)
        have f283 := f199.kx k256 (show (0 : Nat) ∉ [5] by decide)
        have f284 := f200.kx k256 (show (0 : Nat) ∉ [5] by decide)
        have f285 := f201.kx k256 (show (0 : Nat) ∉ [5] by decide)
        have f286 := f202.kx k256 (show (0 : Nat) ∉ [5] by decide)
        have f287 := f203.kx k256 (show (0 : Nat) ∉ [5] by decide)
        have f288 := f204.kx k256 (show (0 : Nat) ∉ [5] by decide)
        have f289 := f205.kx k256 (show (0 : Nat) ∉ [5] by decide)
        have f290 := f206.kx k256 (show (0 : Nat) ∉ [5] by decide)
        have f291 := f207.kx k256 (show (0 : Nat) ∉ [5] by decide)
        have f292 := f173.kx k256 (show (0 : Nat) ∉ [5] by decide)
        have f293 := f234.kx k256 (show (0 : Nat) ∉ [5] by decide)
        have f294 := f235.kx k256 (show (0 : Nat) ∉ [5] by decide)
        have hsm : gr_shm R M u U v i225 = none := by unfold gr_shm; rw [if_neg hvb12]
        have hg : gr_jm n R k M u U cs v = gr_wg R M u U (M i225).1 (some i225) := by unfold gr_jm; simp only [q88, hfn, hsm]
        exact pd_iret (v := r252) X w ⟨by rw [hg]; exact e255, pd_kx.tr (pd_kx.mono (us := [5]) (pd_kx.tr (pd_kx.tr (pd_kx.tr (pd_kx.tr (k19) (k47)) (k97)) (k132)) (k170)) (by simp)) (k256), (by rw [hg]; exact f257)⟩ (by decide) (by decide) d_p1m21_174
    · -- not taken: 47
      have hvb12 : v = 12 := ((pd_Kf_of X).2.2.2.2.2.2 _ 12 hv (by decide) (Option.some.inj q208))
      refine lv_iconst (v := nI 1) hx hb d_p1m21_47 (by decide) ?_
      refine lv_goto (tgt := 52) hx hb d_p1m21_48 (by decide) ?_
      refine lv_istore (lv' := [(6, .int (nI 1)), (5, .ref r167), (4, .ref r129), (3, .ref (A i90)), (0, .ref x), (1, .ref y), (2, .ref (G.2.2.2 (10 + v)))]) hx hb d_p1m21_52 hl (by decide) rfl (fun ls hl => ?_)
      refine lv_iload hx hb d_p1m21_54 (lv_at hl 0 rfl) ?_
      refine pd_zeq (tgt := 74) hx hb d_p1m21_56 (by decide) (by decide) (fun q => absurd q (by decide)) (fun _ => ?_)
      refine lv_aload_n hx hb d_p1m21_59 rfl (lv_at hl 4 rfl) ?_
      refine pd_get X w f181 rfl 2 (by decide) mT_369 rfl rfl d_p1m21_60 ?_
      refine lv_aload_n hx hb d_p1m21_63 rfl (lv_at hl 3 rfl) ?_
      refine lv_aload hx hb d_p1m21_64 (lv_at hl 2 rfl) ?_
      refine lv_aload hx hb d_p1m21_66 (lv_at hl 1 rfl) ?_
      obtain ⟨ar299, g300, f301, f302, g303, hz304, hz305, z306, f307⟩ := id f196
      refine pd_cV (a := me) (As := [.ref (A i90), .ref r129, .ref r167]) (rest := []) X w f301 rfl (c_Members_findMethod l G h168 (by assumption) (by assumption) (by omega) (by assumption) (by assumption)) ok_Members_findMethod ⟨mT_933, mT_934⟩ mT_932 ⟨by decide, by decide⟩ rfl hl.1 rfl (Nat.le_of_ble_eq_true rfl) d_p1m21_68 ⟨by decide, by decide⟩ (fun r296 h297 H locs hp298 w => ?_)
      refine W.widen (k := 10) (n := 320) (by decide) (by decide) ?_
      obtain ⟨e308, rfl⟩ := hp298
      refine lv_goto (tgt := 86) hx hb d_p1m21_71 (by decide) ?_
      refine pd_ostore (lv' := [(7, va_rf r296), (6, .int (nI 1)), (5, .ref r167), (4, .ref r129), (3, .ref (A i90)), (0, .ref x), (1, .ref y), (2, .ref (G.2.2.2 (10 + v)))]) hx hb d_p1m21_86 hl (by decide) rfl (fun ls hl => ?_)
      refine pd_oload hx hb d_p1m21_88 (lv_at hl 0 rfl) ?_
      rcases pd_om e308 with ⟨q309, q312⟩ | ⟨i311, q309, q312⟩
      · -- none
        refine pd_top (v' := .null) (by rw [q312]; rfl) ?_
        rw [q312] at hl
        have hl : lv_has ls 9 [(7, .null), (6, .int (nI 1)), (5, .ref r167), (4, .ref r129), (3, .ref (A i90)), (0, .ref x), (1, .ref y), (2, .ref (G.2.2.2 (10 + v)))] := hl
        refine lv_ifnonnullN hx hb d_p1m21_90 ?_
        have hfn : gr_fnd R k M cs v i90 = none := by unfold gr_fnd; rw [if_pos hvb12]; exact q309
        refine lv_bipush (v := -2) hx hb d_p1m21_93 (by decide) ?_
        have hg : gr_jm n R k M u U cs v = (-2, 0) := by unfold gr_jm; simp only [q88, hfn]
        exact pd_iret (v := (-2)) X w ⟨by rw [hg], pd_kx.mono (us := [5]) (pd_kx.tr (pd_kx.tr (pd_kx.tr (pd_kx.tr (k19) (k47)) (k97)) (k132)) (k170)) (by simp), (by rw [hg]; exact ⟨lb, cl, me, ru, bk, f181, hz_x, f194, f195, f196, f197, f198, ht60⟩)⟩ (by decide) (by decide) d_p1m21_95
      · -- some
        refine pd_top (v' := .ref (B i311)) (by rw [q312]; rfl) ?_
        rw [q312] at hl
        have hl : lv_has ls 9 [(7, .ref (B i311)), (6, .int (nI 1)), (5, .ref r167), (4, .ref r129), (3, .ref (A i90)), (0, .ref x), (1, .ref y), (2, .ref (G.2.2.2 (10 + v)))] := hl
        have i311lt := gr_meth_lt q309
        refine lv_ifnonnull (tgt := 96) hx hb d_p1m21_90 (by decide) ?_
        have hfn : gr_fnd R k M cs v i90 = some i311 := by unfold gr_fnd; rw [if_pos hvb12]; exact q309
        refine lv_iload hx hb d_p1m21_96 (lv_at hl 1 rfl) ?_
        refine pd_zeq (tgt := 124) hx hb d_p1m21_98 (by decide) (by decide) (fun q => absurd q (by decide)) (fun _ => ?_)
        refine lv_aload_n hx hb d_p1m21_101 rfl (lv_at hl 5 rfl) ?_
        refine pd_get X w f181 rfl 3 (by decide) mT_370 rfl rfl d_p1m21_102 ?_
        refine pd_gets X w (List.mem_of_getElem? (i := 13) rfl) mT_844 d_p1m21_105 ?_
        refine pd_gets X w (List.mem_of_getElem? (i := 13) rfl) mT_844 d_p1m21_108 ?_
        refine lv_aload hx hb d_p1m21_111 (lv_at hl 0 rfl) ?_
        obtain ⟨⟨nm316, sh317, f318, f319, f320⟩, z321, z322⟩ := f200 i311 (by omega)
        obtain ⟨v323, g324, f325, f326, gf327, gc328, gl329⟩ := id f319
        obtain ⟨v330, g331, f332, f333, gf334, gc335, gl336⟩ := id f320
        refine pd_get X w f318 rfl 1 (by decide) mT_815 rfl rfl d_p1m21_113 ?_
        refine lv_aload hx hb d_p1m21_116 (lv_at hl 0 rfl) ?_
        obtain ⟨ar340, g341, f342, f343, g344, hz345, hz346, z347, f348⟩ := id f197
        refine pd_cV (a := ru) (As := [.ref (G.2.2.2 17), .ref (G.2.2.2 17), .ref (A (M i311).1), .ref (B i311)]) (rest := []) X w f342 rfl (c_Rules_best l G h168 (A := A) (B := B) (C := C) (n := n) (R := R) (k := k) (M := M) (u := u) (U := U) (v1 := 7) (v2 := 7) (j := ((M i311).1)) (o := some i311) (by assumption) (by assumption) (by assumption) (by omega) (by omega) (by omega) (fun t ht => by cases ht; omega)) ok_Rules_best ⟨mT_949, mT_950⟩ mT_948 ⟨by decide, by decide⟩ rfl hl.1 rfl (Nat.le_of_ble_eq_true rfl) d_p1m21_118 ⟨by decide, by decide⟩ (fun r337 h338 H locs hp339 w => ?_)
        refine W.widen (k := 10) (n := 320) (by decide) (by decide) ?_
        obtain ⟨e349, rfl⟩ := hp339
        refine lv_goto (tgt := 125) hx hb d_p1m21_121 (by decide) ?_
        refine pd_ostore (lv' := [(8, va_rf r337), (7, .ref (B i311)), (6, .int (nI 1)), (5, .ref r167), (4, .ref r129), (3, .ref (A i90)), (0, .ref x), (1, .ref y), (2, .ref (G.2.2.2 (10 + v)))]) hx hb d_p1m21_125 hl (by decide) rfl (fun ls hl => ?_)
        refine pd_oload hx hb d_p1m21_127 (lv_at hl 0 rfl) ?_
        rcases pd_om e349 with ⟨q350, q353⟩ | ⟨i352, q350, q353⟩
        · -- none
          refine pd_top (v' := .null) (by rw [q353]; rfl) ?_
          rw [q353] at hl
          have hl : lv_has ls 9 [(8, .null), (7, .ref (B i311)), (6, .int (nI 1)), (5, .ref r167), (4, .ref r129), (3, .ref (A i90)), (0, .ref x), (1, .ref y), (2, .ref (G.2.2.2 (10 + v)))] := hl
          refine lv_ifnullN (tgt := 163) hx hb d_p1m21_129 (by decide) ?_
          refine lv_aload_n hx hb d_p1m21_163 rfl (lv_at hl 6 rfl) ?_
          refine lv_aload hx hb d_p1m21_164 (lv_at hl 1 rfl) ?_
          refine pd_get X w f318 rfl 1 (by decide) mT_815 rfl rfl d_p1m21_166 ?_
          refine lv_aload hx hb d_p1m21_169 (lv_at hl 1 rfl) ?_
          refine pd_cV (a := x) (As := [.ref (A (M i311).1), .ref (B i311)]) (rest := []) X w f181 rfl (c_PolicyDesk_weigh l G h168 (A := A) (B := B) (C := C) (t0 := t0) (n := n) (R := R) (k := k) (M := M) (u := u) (U := U) (T := T) (kp := kp) (nx := nx) (sp := sp) (an := an) (gn := gn) (sn := sn) (dn := dn) (j := ((M i311).1)) (o := some i311) (⟨lb, cl, me, ru, bk, f181, hz_x, f194, f195, f196, f197, f198, ht60⟩) (by omega) (fun t ht => by cases ht; omega)) ok_PolicyDesk_weigh ⟨mT_962, sT_10⟩ mT_960 ⟨by decide, by decide⟩ rfl hl.1 rfl (Nat.le_of_ble_eq_true rfl) d_p1m21_171 ⟨by decide, by decide⟩ (fun r355 h356 H locs hp357 w => ?_)
          refine W.widen (k := 10) (n := 320) (by decide) (by decide) ?_
          obtain ⟨e358, k359, f360⟩ := hp357
          have f361 := k359 _ _ f182 (show (0 : Nat) ∉ [5] by decide)
          have f362 := k359 _ _ f183 (show (0 : Nat) ∉ [5] by decide)
          have f363 := k359 _ _ f184 (show (0 : Nat) ∉ [5] by decide)
          have f364 := k359 _ _ f185 (show (0 : Nat) ∉ [5] by decide)
          have f365 := k359 _ _ f186 (show (6 : Nat) ∉ [5] by decide)
          have f366 := k359 _ _ f187 (show (0 : Nat) ∉ [5] by decide)
          have f367 := k359 _ _ f188 (show (0 : Nat) ∉ [5] by decide)
          have f368 := k359 _ _ f176 (show (0 : Nat) ∉ [5] by decide)
          have f369 := k359 _ _ f301 (show (11 : Nat) ∉ [5] by decide)
          have f370 := k359 _ _ f318 (show (0 : Nat) ∉ [5] by decide)
          have f371 := k359 _ _ f325 (show (0 : Nat) ∉ [5] by decide)
          have f372 := k359 _ _ f332 (show (0 : Nat) ∉ [5] by decide)
          have f373 := k359 _ _ f342 (show (13 : Nat) ∉ [5] by decide)
          have f374 := k359 _ _ f189 (show (0 : Nat) ∉ [5] by decide)
          have f375 := k359 _ _ f190 (show (0 : Nat) ∉ [5] by decide)
          have f376 := k359 _ _ f191 (show (0 : Nat) ∉ [5] by decide)
          have f377 := k359 _ _ f192 (show (0 : Nat) ∉ [5] by decide)
          have f378 := k359 _ _ f193 (show (0 : Nat) ∉ [5] by decide)
          have f379 := k359 _ _ f177 (show (0 : Nat) ∉ [5] by decide)
          have f380 := k359 _ _ f326 (show (0 : Nat) ∉ [5] by decide)
          have f381 := k359 _ _ f333 (show (0 : Nat) ∉ [5] by decide)
          have f382 := f194.kx k359 (show (1 : Nat) ∉ [5] by decide) (show (2 : Nat) ∉ [5] by decide)
          have f383 := f195.kx k359 (show (6 : Nat) ∉ [5] by decide) (show (10 : Nat) ∉ [5] by decide) (show (0 : Nat) ∉ [5] by decide)
          have f384 := f196.kx k359 (show (11 : Nat) ∉ [5] by decide) (show (12 : Nat) ∉ [5] by decide) (show (0 : Nat) ∉ [5] by decide)
          have f385 := f197.kx k359 (show (13 : Nat) ∉ [5] by decide) (show (14 : Nat) ∉ [5] by decide) (show (0 : Nat) ∉ [5] by decide)
          have f386 := f198.kx k359 (show (15 : Nat) ∉ [5] by decide) (show (16 : Nat) ∉ [5] by decide) (show (17 : Nat) ∉ [5] by decide) (show (3 : Nat) ∉ [5] by decide) (show (4 : Nat) ∉ [5] by decide)
          have f387 := f199.kx k359 (show (0 : Nat) ∉ [5] by decide)
          have f388 := f200.kx k359 (show (0 : Nat) ∉ [5] by decide)
          have f389 := f201.kx k359 (show (0 : Nat) ∉ [5] by decide)
          have f390 := f202.kx k359 (show (0 : Nat) ∉ [5] by decide)
          have f391 := f203.kx k359 (show (0 : Nat) ∉ [5] by decide)
          have f392 := f204.kx k359 (show (0 : Nat) ∉ [5] by decide)
          have f393 := f205.kx k359 (show (0 : Nat) ∉ [5] by decide)
          have f394 := f206.kx k359 (show (0 : Nat) ∉ [5] by decide)
          have f395 := f207.kx k359 (show (0 : Nat) ∉ [5] by decide)
          have f396 := f173.kx k359 (show (0 : Nat) ∉ [5] by decide)
          have f397 := f319.kx k359 (show (0 : Nat) ∉ [5] by decide)
          have f398 := f320.kx k359 (show (0 : Nat) ∉ [5] by decide)
          have hsm : gr_shm R M u U v i311 = none := by unfold gr_shm; rw [if_pos hvb12]; exact q350
          have hg : gr_jm n R k M u U cs v = gr_wg R M u U (M i311).1 (some i311) := by unfold gr_jm; simp only [q88, hfn, hsm]
          exact pd_iret (v := r355) X w ⟨by rw [hg]; exact e358, pd_kx.tr (pd_kx.mono (us := [5]) (pd_kx.tr (pd_kx.tr (pd_kx.tr (pd_kx.tr (k19) (k47)) (k97)) (k132)) (k170)) (by simp)) (k359), (by rw [hg]; exact f360)⟩ (by decide) (by decide) d_p1m21_174
        · -- some
          refine pd_top (v' := .ref (C i352)) (by rw [q353]; rfl) ?_
          rw [q353] at hl
          have hl : lv_has ls 9 [(8, .ref (C i352)), (7, .ref (B i311)), (6, .int (nI 1)), (5, .ref r167), (4, .ref r129), (3, .ref (A i90)), (0, .ref x), (1, .ref y), (2, .ref (G.2.2.2 (10 + v)))] := hl
          have i352lt := gr_bst_lt q350
          refine lv_ifnull hx hb d_p1m21_129 ?_
          refine lv_aload hx hb d_p1m21_132 (lv_at hl 0 rfl) ?_
          obtain ⟨⟨pa400, f401, f402⟩, z403, z404, z405⟩ := f201 i352 (by omega)
          refine pd_get X w f401 rfl 3 (by decide) mT_910 rfl rfl d_p1m21_134 ?_
          rcases pd_oc ((U i352).2.2.2) with q406 | ⟨i408, q406⟩
          · -- none
            refine pd_top (v' := .null) (by rw [q406]; rfl) ?_
            have hl : lv_has ls 9 [(8, .ref (C i352)), (7, .ref (B i311)), (6, .int (nI 1)), (5, .ref r167), (4, .ref r129), (3, .ref (A i90)), (0, .ref x), (1, .ref y), (2, .ref (G.2.2.2 (10 + v)))] := hl
            refine lv_ifnullN (tgt := 163) hx hb d_p1m21_137 (by decide) ?_
            refine lv_aload_n hx hb d_p1m21_163 rfl (lv_at hl 6 rfl) ?_
            refine lv_aload hx hb d_p1m21_164 (lv_at hl 1 rfl) ?_
            refine pd_get X w f318 rfl 1 (by decide) mT_815 rfl rfl d_p1m21_166 ?_
            refine lv_aload hx hb d_p1m21_169 (lv_at hl 1 rfl) ?_
            refine pd_cV (a := x) (As := [.ref (A (M i311).1), .ref (B i311)]) (rest := []) X w f181 rfl (c_PolicyDesk_weigh l G h168 (A := A) (B := B) (C := C) (t0 := t0) (n := n) (R := R) (k := k) (M := M) (u := u) (U := U) (T := T) (kp := kp) (nx := nx) (sp := sp) (an := an) (gn := gn) (sn := sn) (dn := dn) (j := ((M i311).1)) (o := some i311) (⟨lb, cl, me, ru, bk, f181, hz_x, f194, f195, f196, f197, f198, ht60⟩) (by omega) (fun t ht => by cases ht; omega)) ok_PolicyDesk_weigh ⟨mT_962, sT_10⟩ mT_960 ⟨by decide, by decide⟩ rfl hl.1 rfl (Nat.le_of_ble_eq_true rfl) d_p1m21_171 ⟨by decide, by decide⟩ (fun r410 h411 H locs hp412 w => ?_)
            refine W.widen (k := 10) (n := 320) (by decide) (by decide) ?_
            obtain ⟨e413, k414, f415⟩ := hp412
            have f416 := k414 _ _ f182 (show (0 : Nat) ∉ [5] by decide)
            have f417 := k414 _ _ f183 (show (0 : Nat) ∉ [5] by decide)
            have f418 := k414 _ _ f184 (show (0 : Nat) ∉ [5] by decide)
            have f419 := k414 _ _ f185 (show (0 : Nat) ∉ [5] by decide)
            have f420 := k414 _ _ f186 (show (6 : Nat) ∉ [5] by decide)
            have f421 := k414 _ _ f187 (show (0 : Nat) ∉ [5] by decide)
            have f422 := k414 _ _ f188 (show (0 : Nat) ∉ [5] by decide)
            have f423 := k414 _ _ f176 (show (0 : Nat) ∉ [5] by decide)
            have f424 := k414 _ _ f301 (show (11 : Nat) ∉ [5] by decide)
            have f425 := k414 _ _ f318 (show (0 : Nat) ∉ [5] by decide)
            have f426 := k414 _ _ f325 (show (0 : Nat) ∉ [5] by decide)
            have f427 := k414 _ _ f332 (show (0 : Nat) ∉ [5] by decide)
            have f428 := k414 _ _ f342 (show (13 : Nat) ∉ [5] by decide)
            have f429 := k414 _ _ f401 (show (0 : Nat) ∉ [5] by decide)
            have f430 := k414 _ _ f189 (show (0 : Nat) ∉ [5] by decide)
            have f431 := k414 _ _ f190 (show (0 : Nat) ∉ [5] by decide)
            have f432 := k414 _ _ f191 (show (0 : Nat) ∉ [5] by decide)
            have f433 := k414 _ _ f192 (show (0 : Nat) ∉ [5] by decide)
            have f434 := k414 _ _ f193 (show (0 : Nat) ∉ [5] by decide)
            have f435 := k414 _ _ f177 (show (0 : Nat) ∉ [5] by decide)
            have f436 := k414 _ _ f326 (show (0 : Nat) ∉ [5] by decide)
            have f437 := k414 _ _ f333 (show (0 : Nat) ∉ [5] by decide)
            have f438 := f194.kx k414 (show (1 : Nat) ∉ [5] by decide) (show (2 : Nat) ∉ [5] by decide)
            have f439 := f195.kx k414 (show (6 : Nat) ∉ [5] by decide) (show (10 : Nat) ∉ [5] by decide) (show (0 : Nat) ∉ [5] by decide)
            have f440 := f196.kx k414 (show (11 : Nat) ∉ [5] by decide) (show (12 : Nat) ∉ [5] by decide) (show (0 : Nat) ∉ [5] by decide)
            have f441 := f197.kx k414 (show (13 : Nat) ∉ [5] by decide) (show (14 : Nat) ∉ [5] by decide) (show (0 : Nat) ∉ [5] by decide)
            have f442 := f198.kx k414 (show (15 : Nat) ∉ [5] by decide) (show (16 : Nat) ∉ [5] by decide) (show (17 : Nat) ∉ [5] by decide) (show (3 : Nat) ∉ [5] by decide) (show (4 : Nat) ∉ [5] by decide)
            have f443 := f199.kx k414 (show (0 : Nat) ∉ [5] by decide)
            have f444 := f200.kx k414 (show (0 : Nat) ∉ [5] by decide)
            have f445 := f201.kx k414 (show (0 : Nat) ∉ [5] by decide)
            have f446 := f202.kx k414 (show (0 : Nat) ∉ [5] by decide)
            have f447 := f203.kx k414 (show (0 : Nat) ∉ [5] by decide)
            have f448 := f204.kx k414 (show (0 : Nat) ∉ [5] by decide)
            have f449 := f205.kx k414 (show (0 : Nat) ∉ [5] by decide)
            have f450 := f206.kx k414 (show (0 : Nat) ∉ [5] by decide)
            have f451 := f207.kx k414 (show (0 : Nat) ∉ [5] by decide)
            have f452 := f173.kx k414 (show (0 : Nat) ∉ [5] by decide)
            have f453 := f319.kx k414 (show (0 : Nat) ∉ [5] by decide)
            have f454 := f320.kx k414 (show (0 : Nat) ∉ [5] by decide)
            have f455 := f402.kx k414 (show (0 : Nat) ∉ [5] by decide) (show (0 : Nat) ∉ [5] by decide)
            have hsm : gr_shm R M u U v i311 = some i352 := by unfold gr_shm; rw [if_pos hvb12]; exact q350
            have hg : gr_jm n R k M u U cs v = gr_wg R M u U (M i311).1 (some i311) := by unfold gr_jm; simp only [q88, hfn, hsm, q406]
            exact pd_iret (v := r410) X w ⟨by rw [hg]; exact e413, pd_kx.tr (pd_kx.mono (us := [5]) (pd_kx.tr (pd_kx.tr (pd_kx.tr (pd_kx.tr (k19) (k47)) (k97)) (k132)) (k170)) (by simp)) (k414), (by rw [hg]; exact f415)⟩ (by decide) (by decide) d_p1m21_174
          · -- some
            refine pd_top (v' := .ref (B i408)) (by rw [q406]; rfl) ?_
            have hl : lv_has ls 9 [(8, .ref (C i352)), (7, .ref (B i311)), (6, .int (nI 1)), (5, .ref r167), (4, .ref r129), (3, .ref (A i90)), (0, .ref x), (1, .ref y), (2, .ref (G.2.2.2 (10 + v)))] := hl
            have i408lt := z405 i408 q406
            refine lv_ifnull hx hb d_p1m21_137 ?_
            refine lv_aload_n hx hb d_p1m21_140 rfl (lv_at hl 6 rfl) ?_
            refine lv_dup hx hb d_p1m21_141 rfl ?_
            refine pd_get X w f181 rfl 9 (by decide) mT_376 rfl rfl d_p1m21_142 ?_
            refine lv_iconst (v := nI 1) hx hb d_p1m21_145 (by decide) ?_
            refine pd_iadd hx hb d_p1m21_146 ?_
            refine pd_put (ty := .int) X w f181 hz_x rfl 9 (by decide) mT_376 rfl rfl (by decide +kernel) rfl rfl (Nat.le_of_ble_eq_true rfl) d_p1m21_147 (fun H locs w => ?_)
            have w : pd_w G s H locs (pd_up h168 x (5, .inr (0, [.ref lb, .ref cl, .ref me, .ref ru, .ref bk, .long sp, .int (nI an), .int (nI gn), .int (nI sn), .int (nI (dn + 1))]))) := w
            obtain ⟨h457, u460⟩ : ∃ z, z = pd_up h168 x (5, .inr (0, [.ref lb, .ref cl, .ref me, .ref ru, .ref bk, .long sp, .int (nI an), .int (nI gn), .int (nI sn), .int (nI (dn + 1))])) := ⟨_, rfl⟩
            rw [← u460] at w
            have k458 : pd_kq x h168 h457 := by rw [u460]; exact pd_up_kq
            have f459 : h457 x = some (5, .inr (0, [.ref lb, .ref cl, .ref me, .ref ru, .ref bk, .long sp, .int (nI an), .int (nI gn), .int (nI sn), .int (nI (dn + 1))])) := by rw [u460]; exact pd_up_s _ _ _
            have f461 := k458 _ _ (pd_ne f182 f181 (by simp)) f182
            have f462 := k458 _ _ (pd_ne f183 f181 (by simp)) f183
            have f463 := k458 _ _ (pd_ne f184 f181 (by simp)) f184
            have f464 := k458 _ _ (pd_ne f185 f181 (by simp)) f185
            have f465 := k458 _ _ (pd_ne f186 f181 (by simp)) f186
            have f466 := k458 _ _ (pd_ne f187 f181 (by simp)) f187
            have f467 := k458 _ _ (pd_ne f188 f181 (by simp)) f188
            have f468 := k458 _ _ (pd_ne f176 f181 (by simp)) f176
            have f469 := k458 _ _ (pd_ne f301 f181 (by simp)) f301
            have f470 := k458 _ _ (pd_ne f318 f181 (by simp)) f318
            have f471 := k458 _ _ (pd_ne f325 f181 (by simp)) f325
            have f472 := k458 _ _ (pd_ne f332 f181 (by simp)) f332
            have f473 := k458 _ _ (pd_ne f342 f181 (by simp)) f342
            have f474 := k458 _ _ (pd_ne f401 f181 (by simp)) f401
            have f475 := k458 _ _ (pd_ne f189 f181 (by simp)) f189
            have f476 := k458 _ _ (pd_ne f190 f181 (by simp)) f190
            have f477 := k458 _ _ (pd_ne f191 f181 (by simp)) f191
            have f478 := k458 _ _ (pd_ne f192 f181 (by simp)) f192
            have f479 := k458 _ _ (pd_ne f193 f181 (by simp)) f193
            have f480 := k458 _ _ (pd_ne f177 f181 (by simp)) f177
            have f481 := k458 _ _ (pd_ne f326 f181 (by simp)) f326
            have f482 := k458 _ _ (pd_ne f333 f181 (by simp)) f333
            have f483 := f194.kx (pd_kq.kx k458 f181) (show (1 : Nat) ∉ [5] by decide) (show (2 : Nat) ∉ [5] by decide)
            have f484 := f195.kx (pd_kq.kx k458 f181) (show (6 : Nat) ∉ [5] by decide) (show (10 : Nat) ∉ [5] by decide) (show (0 : Nat) ∉ [5] by decide)
            have f485 := f196.kx (pd_kq.kx k458 f181) (show (11 : Nat) ∉ [5] by decide) (show (12 : Nat) ∉ [5] by decide) (show (0 : Nat) ∉ [5] by decide)
            have f486 := f197.kx (pd_kq.kx k458 f181) (show (13 : Nat) ∉ [5] by decide) (show (14 : Nat) ∉ [5] by decide) (show (0 : Nat) ∉ [5] by decide)
            have f487 := f198.kx (pd_kq.kx k458 f181) (show (15 : Nat) ∉ [5] by decide) (show (16 : Nat) ∉ [5] by decide) (show (17 : Nat) ∉ [5] by decide) (show (3 : Nat) ∉ [5] by decide) (show (4 : Nat) ∉ [5] by decide)
            have f488 := f199.kx (pd_kq.kx k458 f181) (show (0 : Nat) ∉ [5] by decide)
            have f489 := f200.kx (pd_kq.kx k458 f181) (show (0 : Nat) ∉ [5] by decide)
            have f490 := f201.kx (pd_kq.kx k458 f181) (show (0 : Nat) ∉ [5] by decide)
            have f491 := f202.kx (pd_kq.kx k458 f181) (show (0 : Nat) ∉ [5] by decide)
            have f492 : pd_Str h457 a4 cs := ⟨_, _, f462, f475, gf16, gc17, gl18⟩
            have f493 : pd_Str h457 r1 (gr_w cs 1) := ⟨_, _, f463, f476, gf27, gc28, gl29⟩
            have f494 : pd_Str h457 r44 (gr_bd (gr_w cs 1)) := ⟨_, _, f464, f477, gf55, gc56, gl57⟩
            have f495 : pd_Str h457 r94 (gr_w cs 1) := ⟨_, _, f466, f478, gf105, gc106, gl107⟩
            have f496 : pd_Str h457 r129 (gr_ad (gr_w cs 1)) := ⟨_, _, f467, f479, gf140, gc141, gl142⟩
            have f497 : pd_Str h457 r167 (gr_w cs 2) := ⟨_, _, f468, f480, gf178, gc179, gl180⟩
            have f498 : pd_Str h457 nm316 ((M i311).2.1) := ⟨_, _, f471, f481, gf327, gc328, gl329⟩
            have f499 : pd_Str h457 sh317 ((M i311).2.2.1) := ⟨_, _, f472, f482, gf334, gc335, gl336⟩
            have f500 := f402.kx (pd_kq.kx k458 f181) (show (0 : Nat) ∉ [5] by decide) (show (0 : Nat) ∉ [5] by decide)
            refine lv_sipush (v := nI 10000) hx hb d_p1m21_150 (by decide) ?_
            refine lv_aload hx hb d_p1m21_153 (lv_at hl 0 rfl) ?_
            refine pd_get X w f474 rfl 3 (by decide) mT_910 rfl rfl d_p1m21_155 ?_
            refine pd_top (v' := .ref (B i408)) (by rw [q406]; rfl) ?_
            obtain ⟨⟨nm501, sh502, f503, f504, f505⟩, z506, z507⟩ := f489 i408 (by omega)
            obtain ⟨v508, g509, f510, f511, gf512, gc513, gl514⟩ := id f504
            obtain ⟨v515, g516, f517, f518, gf519, gc520, gl521⟩ := id f505
            refine pd_get X w f503 rfl 0 (by decide) mT_812 rfl rfl d_p1m21_158 ?_
            refine pd_iadd hx hb d_p1m21_161 ?_
            have hsm : gr_shm R M u U v i311 = some i352 := by unfold gr_shm; rw [if_pos hvb12]; exact q350
            have hg : gr_jm n R k M u U cs v = (nI (10000 + i408), 1) := by unfold gr_jm; simp only [q88, hfn, hsm, q406]
            exact pd_iret (v := (nI (10000 + i408))) X w ⟨by rw [hg], pd_kx.tr (pd_kx.mono (us := [5]) (pd_kx.tr (pd_kx.tr (pd_kx.tr (pd_kx.tr (k19) (k47)) (k97)) (k132)) (k170)) (by simp)) (pd_kq.kx (k458) f181), (by rw [hg]; exact ⟨lb, cl, me, ru, bk, f459, hz_x, f483, f484, f485, f486, f487, ht60⟩)⟩ (by decide) (by decide) d_p1m21_162

theorem d_p1m19_0 : decode prog_1_method_19_code 0 = .ok (.aload_n 2, 1) := by decide +kernel
theorem d_p1m19_1 : decode prog_1_method_19_code 1 = .ok (.getstatic 261, 3) := by decide +kernel
theorem d_p1m19_4 : decode prog_1_method_19_code 4 = .ok (.if_acmp .eq 10, 3) := by decide +kernel
theorem d_p1m19_7 : decode prog_1_method_19_code 7 = .ok (.aload_n 2, 1) := by decide +kernel
theorem d_p1m19_8 : decode prog_1_method_19_code 8 = .ok (.getstatic 264, 3) := by decide +kernel
theorem d_p1m19_11 : decode prog_1_method_19_code 11 = .ok (.if_acmp .ne 7, 3) := by decide +kernel
theorem d_p1m19_14 : decode prog_1_method_19_code 14 = .ok (.iconst 1, 1) := by decide +kernel
theorem d_p1m19_15 : decode prog_1_method_19_code 15 = .ok (.goto 4, 3) := by decide +kernel
theorem d_p1m19_18 : decode prog_1_method_19_code 18 = .ok (.iconst 0, 1) := by decide +kernel
theorem d_p1m19_19 : decode prog_1_method_19_code 19 = .ok (.istore_n 3, 1) := by decide +kernel
theorem d_p1m19_20 : decode prog_1_method_19_code 20 = .ok (.iload_n 3, 1) := by decide +kernel
theorem d_p1m19_21 : decode prog_1_method_19_code 21 = .ok (.ifCond .eq 12, 3) := by decide +kernel
theorem d_p1m19_24 : decode prog_1_method_19_code 24 = .ok (.aload_n 0, 1) := by decide +kernel
theorem d_p1m19_25 : decode prog_1_method_19_code 25 = .ok (.aload_n 1, 1) := by decide +kernel
theorem d_p1m19_26 : decode prog_1_method_19_code 26 = .ok (.aload_n 2, 1) := by decide +kernel
theorem d_p1m19_27 : decode prog_1_method_19_code 27 = .ok (.invokevirtual 267, 3) := by decide +kernel
theorem d_p1m19_30 : decode prog_1_method_19_code 30 = .ok (.goto 9, 3) := by decide +kernel
theorem d_p1m19_33 : decode prog_1_method_19_code 33 = .ok (.aload_n 0, 1) := by decide +kernel
theorem d_p1m19_34 : decode prog_1_method_19_code 34 = .ok (.aload_n 1, 1) := by decide +kernel
theorem d_p1m19_35 : decode prog_1_method_19_code 35 = .ok (.aload_n 2, 1) := by decide +kernel
theorem d_p1m19_36 : decode prog_1_method_19_code 36 = .ok (.invokevirtual 270, 3) := by decide +kernel
theorem d_p1m19_39 : decode prog_1_method_19_code 39 = .ok (.istore 4, 2) := by decide +kernel
theorem d_p1m19_41 : decode prog_1_method_19_code 41 = .ok (.aload_n 0, 1) := by decide +kernel
theorem d_p1m19_42 : decode prog_1_method_19_code 42 = .ok (.getfield 40, 3) := by decide +kernel
theorem d_p1m19_45 : decode prog_1_method_19_code 45 = .ok (.aload_n 0, 1) := by decide +kernel
theorem d_p1m19_46 : decode prog_1_method_19_code 46 = .ok (.getfield 187, 3) := by decide +kernel
theorem d_p1m19_49 : decode prog_1_method_19_code 49 = .ok (.aload_n 1, 1) := by decide +kernel
theorem d_p1m19_50 : decode prog_1_method_19_code 50 = .ok (.getfield 273, 3) := by decide +kernel
theorem d_p1m19_53 : decode prog_1_method_19_code 53 = .ok (.iload 4, 2) := by decide +kernel
theorem d_p1m19_55 : decode prog_1_method_19_code 55 = .ok (.invokevirtual 275, 3) := by decide +kernel
theorem d_p1m19_58 : decode prog_1_method_19_code 58 = .ok (.aload_n 0, 1) := by decide +kernel
theorem d_p1m19_59 : decode prog_1_method_19_code 59 = .ok (.dup, 1) := by decide +kernel
theorem d_p1m19_60 : decode prog_1_method_19_code 60 = .ok (.getfield 187, 3) := by decide +kernel
theorem d_p1m19_63 : decode prog_1_method_19_code 63 = .ok (.iconst 1, 1) := by decide +kernel
theorem d_p1m19_64 : decode prog_1_method_19_code 64 = .ok (.iadd, 1) := by decide +kernel
theorem d_p1m19_65 : decode prog_1_method_19_code 65 = .ok (.putfield 187, 3) := by decide +kernel
theorem d_p1m19_68 : decode prog_1_method_19_code 68 = .ok (.iload 4, 2) := by decide +kernel
theorem d_p1m19_70 : decode prog_1_method_19_code 70 = .ok (.ifCond .lt 37, 3) := by decide +kernel
theorem d_p1m19_73 : decode prog_1_method_19_code 73 = .ok (.aload_n 0, 1) := by decide +kernel
theorem d_p1m19_74 : decode prog_1_method_19_code 74 = .ok (.dup, 1) := by decide +kernel
theorem d_p1m19_75 : decode prog_1_method_19_code 75 = .ok (.getfield 190, 3) := by decide +kernel
theorem d_p1m19_78 : decode prog_1_method_19_code 78 = .ok (.iconst 1, 1) := by decide +kernel
theorem d_p1m19_79 : decode prog_1_method_19_code 79 = .ok (.iadd, 1) := by decide +kernel
theorem d_p1m19_80 : decode prog_1_method_19_code 80 = .ok (.putfield 190, 3) := by decide +kernel
theorem d_p1m19_83 : decode prog_1_method_19_code 83 = .ok (.aload_n 0, 1) := by decide +kernel
theorem d_p1m19_84 : decode prog_1_method_19_code 84 = .ok (.dup, 1) := by decide +kernel
theorem d_p1m19_85 : decode prog_1_method_19_code 85 = .ok (.getfield 178, 3) := by decide +kernel
theorem d_p1m19_88 : decode prog_1_method_19_code 88 = .ok (.iload 4, 2) := by decide +kernel
theorem d_p1m19_90 : decode prog_1_method_19_code 90 = .ok (.sipush 10000, 3) := by decide +kernel
theorem d_p1m19_93 : decode prog_1_method_19_code 93 = .ok (.if_icmp .lt 7, 3) := by decide +kernel
theorem d_p1m19_96 : decode prog_1_method_19_code 96 = .ok (.lconst 1, 1) := by decide +kernel
theorem d_p1m19_97 : decode prog_1_method_19_code 97 = .ok (.goto 6, 3) := by decide +kernel
theorem d_p1m19_100 : decode prog_1_method_19_code 100 = .ok (.iload 4, 2) := by decide +kernel
theorem d_p1m19_102 : decode prog_1_method_19_code 102 = .ok (.i2l, 1) := by decide +kernel
theorem d_p1m19_103 : decode prog_1_method_19_code 103 = .ok (.ladd, 1) := by decide +kernel
theorem d_p1m19_104 : decode prog_1_method_19_code 104 = .ok (.putfield 178, 3) := by decide +kernel
theorem d_p1m19_107 : decode prog_1_method_19_code 107 = .ok (.iload 4, 2) := by decide +kernel
theorem d_p1m19_109 : decode prog_1_method_19_code 109 = .ok (.ireturn, 1) := by decide +kernel
abbrev y_PolicyDesk_ask : MethodName := ⟨"PolicyDesk", "ask", "(LPolicyDesk$Line;LPolicyDesk$Verb;)I"⟩
theorem ok_PolicyDesk_ask : pd_ok y_PolicyDesk_ask prog_1_method_19_code 5 (some .int) 2 := ⟨mT_923, mT_1, by decide, by decide +kernel⟩
abbrev rm_PolicyDesk_ask : Room := { frames := 9, cells := 70, slots := 1920, locals := 211 }
set_option maxHeartbeats 4000000 in
set_option maxRecDepth 100000 in
theorem c_PolicyDesk_ask (l : Launch) (G : pd_G) (h : pd_H) {x : Nat} {A B C : Nat → Nat} {t0 : List Nat} {n : Nat} {R : Nat → pd_cr} {k : Nat} {M : Nat → pd_mr} {u : Nat} {U : Nat → pd_rr} {T : Nat → List Nat} {kp nx : Nat} {sp : Int64} {an gn sn dn : Nat} {y v : Nat} {cs : List Nat} (hD : pd_DX G h x A B C t0 n R k M u U T kp nx sp an gn sn dn) (hL : pd_Ln h y cs) (hv : v < 13) (han : an < 1000) : pd_M l y_PolicyDesk_ask prog_1_method_19_code 5 (some .int) rm_PolicyDesk_ask G h [.ref x, .ref y, .ref (G.2.2.2 (10 + v))] Value.int (fun r h1 => r = (gr_jg n R k M u U cs v).1 ∧ pd_kx [3, 4, 5, 15, 16, 17] h h1 ∧ pd_DX G h1 x A B C t0 n R k M u U (pd_fu T nx (gr_atx an cs (gr_jg n R k M u U cs v).1)) (min (kp + 1) 12) ((nx + 1) % 12) (gr_pay sp (gr_jg n R k M u U cs v).1) (an + 1) (gr_gn gn (gr_jg n R k M u U cs v).1) sn (dn + (gr_jg n R k M u U cs v).2)) := by
  refine pd_M.of (by decide) (Nat.le_of_ble_eq_true rfl) ?_
  intro p e s m below meth c X hmn w ls hl
  have hx := X.1
  have hb := X.2.1
  have hl : lv_has ls 5 [(0, .ref x), (1, .ref y), (2, .ref (G.2.2.2 (10 + v)))] := hl
  obtain ⟨lb, cl, me, ru, bk, hx0, hz_x, hsb, hC, hM, hU, hA, ht60⟩ := id hD
  have hR := hC.rows
  have hMR := hM.mrows
  have hRR := hU.rrows
  have hcw := hR.2.2
  have hAi := hR.2.1
  have hn14 := hcw.1
  have ht21 : (2 : Nat) ≠ 1 := by decide
  have ht10 : (1 : Nat) ≠ 0 := by decide
  have ht20 : (2 : Nat) ≠ 0 := by decide
  refine lv_aload_n hx hb d_p1m19_0 rfl (lv_at hl 2 rfl) ?_
  refine pd_gets X w (List.mem_of_getElem? (i := 17) rfl) mT_924 d_p1m19_1 ?_
  refine lv_acmp_eq (rx := (some (G.2.2.2 (10 + v)))) (ry := (some (G.2.2.2 21))) (tgt := 14) hx hb d_p1m19_4 (by decide) (fun q1 => ?_) (fun q1 => ?_)
  · -- taken: 14
    have hvb11 : v = 11 := ((pd_Kf_of X).2.2.2.2.2.2 _ 11 hv (by decide) (Option.some.inj q1))
    refine lv_iconst (v := nI 1) hx hb d_p1m19_14 (by decide) ?_
    refine lv_goto (tgt := 19) hx hb d_p1m19_15 (by decide) ?_
    refine lv_istore_n (lv' := [(3, .int (nI 1)), (0, .ref x), (1, .ref y), (2, .ref (G.2.2.2 (10 + v)))]) hx hb d_p1m19_19 rfl hl (by decide) rfl (fun ls hl => ?_)
    refine lv_iload_n hx hb d_p1m19_20 rfl (lv_at hl 0 rfl) ?_
    refine pd_zeq (tgt := 33) hx hb d_p1m19_21 (by decide) (by decide) (fun q => absurd q (by decide)) (fun _ => ?_)
    refine lv_aload_n hx hb d_p1m19_24 rfl (lv_at hl 1 rfl) ?_
    refine lv_aload_n hx hb d_p1m19_25 rfl (lv_at hl 2 rfl) ?_
    refine lv_aload_n hx hb d_p1m19_26 rfl (lv_at hl 3 rfl) ?_
    refine pd_cV (a := x) (As := [.ref y, .ref (G.2.2.2 (10 + v))]) (rest := []) X w hx0 rfl (c_PolicyDesk_judgeMember l G h (by assumption) (by assumption) (by omega)) ok_PolicyDesk_judgeMember ⟨mT_930, sT_8⟩ mT_928 ⟨by decide, by decide⟩ rfl hl.1 rfl (Nat.le_of_ble_eq_true rfl) d_p1m19_27 ⟨by decide, by decide⟩ (fun r3 h4 H locs hp5 w => ?_)
    refine W.widen (k := 10) (n := 320) (by decide) (by decide) ?_
    obtain ⟨e6, k7, f8⟩ := hp5
    have f9 := hsb.kx k7 (show (1 : Nat) ∉ [5] by decide) (show (2 : Nat) ∉ [5] by decide)
    have f10 := hC.kx k7 (show (6 : Nat) ∉ [5] by decide) (show (10 : Nat) ∉ [5] by decide) (show (0 : Nat) ∉ [5] by decide)
    have f11 := hM.kx k7 (show (11 : Nat) ∉ [5] by decide) (show (12 : Nat) ∉ [5] by decide) (show (0 : Nat) ∉ [5] by decide)
    have f12 := hU.kx k7 (show (13 : Nat) ∉ [5] by decide) (show (14 : Nat) ∉ [5] by decide) (show (0 : Nat) ∉ [5] by decide)
    have f13 := hA.kx k7 (show (15 : Nat) ∉ [5] by decide) (show (16 : Nat) ∉ [5] by decide) (show (17 : Nat) ∉ [5] by decide) (show (3 : Nat) ∉ [5] by decide) (show (4 : Nat) ∉ [5] by decide)
    have f14 := hR.kx k7 (show (0 : Nat) ∉ [5] by decide)
    have f15 := hMR.kx k7 (show (0 : Nat) ∉ [5] by decide)
    have f16 := hRR.kx k7 (show (0 : Nat) ∉ [5] by decide)
    have f17 := hL.kx k7 (show (0 : Nat) ∉ [5] by decide)
    refine lv_goto (tgt := 39) hx hb d_p1m19_30 (by decide) ?_
    have hjg : gr_jg n R k M u U cs v = gr_jm n R k M u U cs v := if_pos (Or.inl hvb11)
    rw [← hjg] at e6 f8
    obtain ⟨lb, cl, me, ru, bk, hx0, hz_x, hsb, hC, hM, hU, hA, ht60⟩ := id f8
    have hR := hC.rows
    have hMR := hM.mrows
    have hRR := hU.rrows
    have hcw := hR.2.2
    have hAi := hR.2.1
    have hn14 := hcw.1
    subst e6
    have haok : gr_aok (gr_jg n R k M u U cs v).1 := gr_jg_ok (fun i9 hi9 => (hRR i9 hi9).2.2.1) (fun i9 hi9 => (hRR i9 hi9).2.2.2) (by obtain ⟨_, _, _, _, _, _, _, z9, _⟩ := hM; exact z9)
    refine lv_istore (lv' := [(4, .int ((gr_jg n R k M u U cs v).1)), (3, .int (nI 1)), (0, .ref x), (1, .ref y), (2, .ref (G.2.2.2 (10 + v)))]) hx hb d_p1m19_39 hl (by decide) rfl (fun ls hl => ?_)
    refine lv_aload_n hx hb d_p1m19_41 rfl (lv_at hl 2 rfl) ?_
    refine pd_get X w hx0 rfl 4 (by decide) mT_371 rfl rfl d_p1m19_42 ?_
    refine lv_aload_n hx hb d_p1m19_45 rfl (lv_at hl 2 rfl) ?_
    refine pd_get X w hx0 rfl 6 (by decide) mT_373 rfl rfl d_p1m19_46 ?_
    refine lv_aload_n hx hb d_p1m19_49 rfl (lv_at hl 3 rfl) ?_
    obtain ⟨a18, st19, fA20, f21, f22, nu23, f24⟩ := id f17
    have hc25 := (gr_cut_ok cs).1
    obtain ⟨v26, g27, f28, f29, gf30, gc31, gl32⟩ := id f24
    refine pd_get X w f21 rfl 0 (by decide) mT_541 rfl rfl d_p1m19_50 ?_
    refine lv_iload hx hb d_p1m19_53 (lv_at hl 0 rfl) ?_
    obtain ⟨le36, ln37, dr38, g39, g40, ds41, f42, f43, f44, f45, g46, z47, z48, hz49, hz50, hz51⟩ := id hA
    refine pd_cVv (a := bk) (As := [.int (nI an), .ref a18, .int ((gr_jg n R k M u U cs v).1)]) (rest := []) X w f42 rfl (c_Audit_write l G h4 (by assumption) (by omega) (by assumption) (by assumption)) ok_Audit_write ⟨mT_993, mT_994⟩ mT_992 ⟨by decide, by decide⟩ rfl hl.1 rfl (Nat.le_of_ble_eq_true rfl) d_p1m19_55 ⟨by decide, by decide⟩ (fun h34 H locs hp35 w => ?_)
    refine W.widen (k := 70) (n := 1920) (by decide) (by decide) ?_
    obtain ⟨k52, f53⟩ := hp35
    have f54 := k52 _ _ hx0 (show (5 : Nat) ∉ [3, 4, 15, 16, 17] by decide)
    have f55 := k52 _ _ f21 (show (0 : Nat) ∉ [3, 4, 15, 16, 17] by decide)
    have f56 := k52 _ _ f28 (show (0 : Nat) ∉ [3, 4, 15, 16, 17] by decide)
    have f57 := k52 _ _ f29 (show (0 : Nat) ∉ [3, 4, 15, 16, 17] by decide)
    have f58 := f17.kx k52 (show (0 : Nat) ∉ [3, 4, 15, 16, 17] by decide)
    have f59 := hsb.kx k52 (show (1 : Nat) ∉ [3, 4, 15, 16, 17] by decide) (show (2 : Nat) ∉ [3, 4, 15, 16, 17] by decide)
    have f60 := hC.kx k52 (show (6 : Nat) ∉ [3, 4, 15, 16, 17] by decide) (show (10 : Nat) ∉ [3, 4, 15, 16, 17] by decide) (show (0 : Nat) ∉ [3, 4, 15, 16, 17] by decide)
    have f61 := hM.kx k52 (show (11 : Nat) ∉ [3, 4, 15, 16, 17] by decide) (show (12 : Nat) ∉ [3, 4, 15, 16, 17] by decide) (show (0 : Nat) ∉ [3, 4, 15, 16, 17] by decide)
    have f62 := hU.kx k52 (show (13 : Nat) ∉ [3, 4, 15, 16, 17] by decide) (show (14 : Nat) ∉ [3, 4, 15, 16, 17] by decide) (show (0 : Nat) ∉ [3, 4, 15, 16, 17] by decide)
    have f63 := hR.kx k52 (show (0 : Nat) ∉ [3, 4, 15, 16, 17] by decide)
    have f64 := hMR.kx k52 (show (0 : Nat) ∉ [3, 4, 15, 16, 17] by decide)
    have f65 := hRR.kx k52 (show (0 : Nat) ∉ [3, 4, 15, 16, 17] by decide)
    have f66 := f24.kx k52 (show (0 : Nat) ∉ [3, 4, 15, 16, 17] by decide)
    refine lv_aload_n hx hb d_p1m19_58 rfl (lv_at hl 2 rfl) ?_
    refine lv_dup hx hb d_p1m19_59 rfl ?_
    refine pd_get X w f54 rfl 6 (by decide) mT_373 rfl rfl d_p1m19_60 ?_
    refine lv_iconst (v := nI 1) hx hb d_p1m19_63 (by decide) ?_
    refine pd_iadd hx hb d_p1m19_64 ?_
    refine pd_put (ty := .int) X w f54 hz_x rfl 6 (by decide) mT_373 rfl rfl (by decide +kernel) rfl rfl (Nat.le_of_ble_eq_true rfl) d_p1m19_65 (fun H locs w => ?_)
    have w : pd_w G s H locs (pd_up h34 x (5, .inr (0, [.ref lb, .ref cl, .ref me, .ref ru, .ref bk, .long sp, .int (nI (an + 1)), .int (nI gn), .int (nI sn), .int (nI (dn + (gr_jg n R k M u U cs v).2))]))) := w
    obtain ⟨h67, u70⟩ : ∃ z, z = pd_up h34 x (5, .inr (0, [.ref lb, .ref cl, .ref me, .ref ru, .ref bk, .long sp, .int (nI (an + 1)), .int (nI gn), .int (nI sn), .int (nI (dn + (gr_jg n R k M u U cs v).2))])) := ⟨_, rfl⟩
    rw [← u70] at w
    have k68 : pd_kq x h34 h67 := by rw [u70]; exact pd_up_kq
    have f69 : h67 x = some (5, .inr (0, [.ref lb, .ref cl, .ref me, .ref ru, .ref bk, .long sp, .int (nI (an + 1)), .int (nI gn), .int (nI sn), .int (nI (dn + (gr_jg n R k M u U cs v).2))])) := by rw [u70]; exact pd_up_s _ _ _
    have f71 := k68 _ _ (pd_ne f55 f54 (by simp)) f55
    have f72 := k68 _ _ (pd_ne f56 f54 (by simp)) f56
    have f73 := k68 _ _ (pd_ne f57 f54 (by simp)) f57
    have f74 := f58.kx (pd_kq.kx k68 f54) (show (0 : Nat) ∉ [5] by decide)
    have f75 := f59.kx (pd_kq.kx k68 f54) (show (1 : Nat) ∉ [5] by decide) (show (2 : Nat) ∉ [5] by decide)
    have f76 := f60.kx (pd_kq.kx k68 f54) (show (6 : Nat) ∉ [5] by decide) (show (10 : Nat) ∉ [5] by decide) (show (0 : Nat) ∉ [5] by decide)
    have f77 := f61.kx (pd_kq.kx k68 f54) (show (11 : Nat) ∉ [5] by decide) (show (12 : Nat) ∉ [5] by decide) (show (0 : Nat) ∉ [5] by decide)
    have f78 := f62.kx (pd_kq.kx k68 f54) (show (13 : Nat) ∉ [5] by decide) (show (14 : Nat) ∉ [5] by decide) (show (0 : Nat) ∉ [5] by decide)
    have f79 := f63.kx (pd_kq.kx k68 f54) (show (0 : Nat) ∉ [5] by decide)
    have f80 := f64.kx (pd_kq.kx k68 f54) (show (0 : Nat) ∉ [5] by decide)
    have f81 := f65.kx (pd_kq.kx k68 f54) (show (0 : Nat) ∉ [5] by decide)
    have f82 : pd_Str h67 a18 cs := ⟨_, _, f72, f73, gf30, gc31, gl32⟩
    have f83 := f53.kx (pd_kq.kx k68 f54) (show (15 : Nat) ∉ [5] by decide) (show (16 : Nat) ∉ [5] by decide) (show (17 : Nat) ∉ [5] by decide) (show (3 : Nat) ∉ [5] by decide) (show (4 : Nat) ∉ [5] by decide)
    refine lv_iload hx hb d_p1m19_68 (lv_at hl 0 rfl) ?_
    refine lv_if_lt (tgt := 107) hx hb d_p1m19_70 (by decide) (fun q84 => ?_) (fun q84 => ?_)
    · -- taken: 107
      refine lv_iload hx hb d_p1m19_107 (lv_at hl 0 rfl) ?_
      exact pd_iret (v := ((gr_jg n R k M u U cs v).1)) X w ⟨rfl, pd_kx.mono (us := [3, 4, 5, 15, 16, 17]) (pd_kx.tr (pd_kx.tr (pd_kx.mono (us := [5, 3, 4, 15, 16, 17]) (k7) (by simp)) (pd_kx.mono (us := [5, 3, 4, 15, 16, 17]) (k52) (by simp))) (pd_kx.mono (us := [5, 3, 4, 15, 16, 17]) (pd_kq.kx (k68) f54) (by simp))) (by simp), (by unfold gr_pay gr_gn; rw [if_pos q84, if_pos q84]; exact ⟨lb, cl, me, ru, bk, f69, hz_x, f75, f76, f77, f78, f83, ht60⟩)⟩ (by decide) (by decide) d_p1m19_109
    · -- not taken: 73
      refine lv_aload_n hx hb d_p1m19_73 rfl (lv_at hl 2 rfl) ?_
      refine lv_dup hx hb d_p1m19_74 rfl ?_
      refine pd_get X w f69 rfl 7 (by decide) mT_374 rfl rfl d_p1m19_75 ?_
      refine lv_iconst (v := nI 1) hx hb d_p1m19_78 (by decide) ?_
      refine pd_iadd hx hb d_p1m19_79 ?_
      refine pd_put (ty := .int) X w f69 hz_x rfl 7 (by decide) mT_374 rfl rfl (by decide +kernel) rfl rfl (Nat.le_of_ble_eq_true rfl) d_p1m19_80 (fun H locs w => ?_)
      have w : pd_w G s H locs (pd_up h67 x (5, .inr (0, [.ref lb, .ref cl, .ref me, .ref ru, .ref bk, .long sp, .int (nI (an + 1)), .int (nI (gn + 1)), .int (nI sn), .int (nI (dn + (gr_jg n R k M u U cs v).2))]))) := w
      obtain ⟨h85, u88⟩ : ∃ z, z = pd_up h67 x (5, .inr (0, [.ref lb, .ref cl, .ref me, .ref ru, .ref bk, .long sp, .int (nI (an + 1)), .int (nI (gn + 1)), .int (nI sn), .int (nI (dn + (gr_jg n R k M u U cs v).2))])) := ⟨_, rfl⟩
      rw [← u88] at w
      have k86 : pd_kq x h67 h85 := by rw [u88]; exact pd_up_kq
      have f87 : h85 x = some (5, .inr (0, [.ref lb, .ref cl, .ref me, .ref ru, .ref bk, .long sp, .int (nI (an + 1)), .int (nI (gn + 1)), .int (nI sn), .int (nI (dn + (gr_jg n R k M u U cs v).2))])) := by rw [u88]; exact pd_up_s _ _ _
      have f89 := k86 _ _ (pd_ne f71 f69 (by simp)) f71
      have f90 := k86 _ _ (pd_ne f72 f69 (by simp)) f72
      have f91 := k86 _ _ (pd_ne f73 f69 (by simp)) f73
      have f92 := f74.kx (pd_kq.kx k86 f69) (show (0 : Nat) ∉ [5] by decide)
      have f93 := f75.kx (pd_kq.kx k86 f69) (show (1 : Nat) ∉ [5] by decide) (show (2 : Nat) ∉ [5] by decide)
      have f94 := f76.kx (pd_kq.kx k86 f69) (show (6 : Nat) ∉ [5] by decide) (show (10 : Nat) ∉ [5] by decide) (show (0 : Nat) ∉ [5] by decide)
      have f95 := f77.kx (pd_kq.kx k86 f69) (show (11 : Nat) ∉ [5] by decide) (show (12 : Nat) ∉ [5] by decide) (show (0 : Nat) ∉ [5] by decide)
      have f96 := f78.kx (pd_kq.kx k86 f69) (show (13 : Nat) ∉ [5] by decide) (show (14 : Nat) ∉ [5] by decide) (show (0 : Nat) ∉ [5] by decide)
      have f97 := f79.kx (pd_kq.kx k86 f69) (show (0 : Nat) ∉ [5] by decide)
      have f98 := f80.kx (pd_kq.kx k86 f69) (show (0 : Nat) ∉ [5] by decide)
      have f99 := f81.kx (pd_kq.kx k86 f69) (show (0 : Nat) ∉ [5] by decide)
      have f100 : pd_Str h85 a18 cs := ⟨_, _, f90, f91, gf30, gc31, gl32⟩
      have f101 := f83.kx (pd_kq.kx k86 f69) (show (15 : Nat) ∉ [5] by decide) (show (16 : Nat) ∉ [5] by decide) (show (17 : Nat) ∉ [5] by decide) (show (3 : Nat) ∉ [5] by decide) (show (4 : Nat) ∉ [5] by decide)
      refine lv_aload_n hx hb d_p1m19_83 rfl (lv_at hl 2 rfl) ?_
      refine lv_dup hx hb d_p1m19_84 rfl ?_
      refine pd_get X w f87 rfl 5 (by decide) mT_372 rfl rfl d_p1m19_85 ?_
      refine lv_iload hx hb d_p1m19_88 (lv_at hl 0 rfl) ?_
      refine lv_sipush (v := nI 10000) hx hb d_p1m19_90 (by decide) ?_
      refine lv_icmp_lt (tgt := 100) hx hb d_p1m19_93 (by decide) (fun q102 => ?_) (fun q102 => ?_)
      · -- taken: 100
        refine lv_iload hx hb d_p1m19_100 (lv_at hl 0 rfl) ?_
        refine lv_i2l hx hb d_p1m19_102 rfl ?_
        refine lv_ladd hx hb d_p1m19_103 ?_
        refine pd_put (ty := .long) X w f87 hz_x rfl 5 (by decide) mT_372 rfl rfl (by decide +kernel) rfl rfl (Nat.le_of_ble_eq_true rfl) d_p1m19_104 (fun H locs w => ?_)
        have w : pd_w G s H locs (pd_up h85 x (5, .inr (0, [.ref lb, .ref cl, .ref me, .ref ru, .ref bk, .long (sp + (((gr_jg n R k M u U cs v).1).toInt64)), .int (nI (an + 1)), .int (nI (gn + 1)), .int (nI sn), .int (nI (dn + (gr_jg n R k M u U cs v).2))]))) := w
        obtain ⟨h103, u106⟩ : ∃ z, z = pd_up h85 x (5, .inr (0, [.ref lb, .ref cl, .ref me, .ref ru, .ref bk, .long (sp + (((gr_jg n R k M u U cs v).1).toInt64)), .int (nI (an + 1)), .int (nI (gn + 1)), .int (nI sn), .int (nI (dn + (gr_jg n R k M u U cs v).2))])) := ⟨_, rfl⟩
        rw [← u106] at w
        have k104 : pd_kq x h85 h103 := by rw [u106]; exact pd_up_kq
        have f105 : h103 x = some (5, .inr (0, [.ref lb, .ref cl, .ref me, .ref ru, .ref bk, .long (sp + (((gr_jg n R k M u U cs v).1).toInt64)), .int (nI (an + 1)), .int (nI (gn + 1)), .int (nI sn), .int (nI (dn + (gr_jg n R k M u U cs v).2))])) := by rw [u106]; exact pd_up_s _ _ _
        have f107 := k104 _ _ (pd_ne f89 f87 (by simp)) f89
        have f108 := k104 _ _ (pd_ne f90 f87 (by simp)) f90
        have f109 := k104 _ _ (pd_ne f91 f87 (by simp)) f91
        have f110 := f92.kx (pd_kq.kx k104 f87) (show (0 : Nat) ∉ [5] by decide)
        have f111 := f93.kx (pd_kq.kx k104 f87) (show (1 : Nat) ∉ [5] by decide) (show (2 : Nat) ∉ [5] by decide)
        have f112 := f94.kx (pd_kq.kx k104 f87) (show (6 : Nat) ∉ [5] by decide) (show (10 : Nat) ∉ [5] by decide) (show (0 : Nat) ∉ [5] by decide)
        have f113 := f95.kx (pd_kq.kx k104 f87) (show (11 : Nat) ∉ [5] by decide) (show (12 : Nat) ∉ [5] by decide) (show (0 : Nat) ∉ [5] by decide)
        have f114 := f96.kx (pd_kq.kx k104 f87) (show (13 : Nat) ∉ [5] by decide) (show (14 : Nat) ∉ [5] by decide) (show (0 : Nat) ∉ [5] by decide)
        have f115 := f97.kx (pd_kq.kx k104 f87) (show (0 : Nat) ∉ [5] by decide)
        have f116 := f98.kx (pd_kq.kx k104 f87) (show (0 : Nat) ∉ [5] by decide)
        have f117 := f99.kx (pd_kq.kx k104 f87) (show (0 : Nat) ∉ [5] by decide)
        have f118 : pd_Str h103 a18 cs := ⟨_, _, f108, f109, gf30, gc31, gl32⟩
        have f119 := f101.kx (pd_kq.kx k104 f87) (show (15 : Nat) ∉ [5] by decide) (show (16 : Nat) ∉ [5] by decide) (show (17 : Nat) ∉ [5] by decide) (show (3 : Nat) ∉ [5] by decide) (show (4 : Nat) ∉ [5] by decide)
        refine lv_iload hx hb d_p1m19_107 (lv_at hl 0 rfl) ?_
        exact pd_iret (v := ((gr_jg n R k M u U cs v).1)) X w ⟨rfl, pd_kx.mono (us := [3, 4, 5, 15, 16, 17]) (pd_kx.tr (pd_kx.tr (pd_kx.tr (pd_kx.tr (pd_kx.mono (us := [5, 3, 4, 15, 16, 17]) (k7) (by simp)) (pd_kx.mono (us := [5, 3, 4, 15, 16, 17]) (k52) (by simp))) (pd_kx.mono (us := [5, 3, 4, 15, 16, 17]) (pd_kq.kx (k68) f54) (by simp))) (pd_kx.mono (us := [5, 3, 4, 15, 16, 17]) (pd_kq.kx (k86) f69) (by simp))) (pd_kx.mono (us := [5, 3, 4, 15, 16, 17]) (pd_kq.kx (k104) f87) (by simp))) (by simp), (by unfold gr_pay gr_gn; rw [if_neg q84, if_pos q102, if_neg q84]; exact ⟨lb, cl, me, ru, bk, f105, hz_x, f111, f112, f113, f114, f119, ht60⟩)⟩ (by decide) (by decide) d_p1m19_109
      · -- not taken: 96
        refine lv_lconst (v := 1) hx hb d_p1m19_96 (by decide) ?_
        refine lv_goto (tgt := 103) hx hb d_p1m19_97 (by decide) ?_
        refine lv_ladd hx hb d_p1m19_103 ?_
        refine pd_put (ty := .long) X w f87 hz_x rfl 5 (by decide) mT_372 rfl rfl (by decide +kernel) rfl rfl (Nat.le_of_ble_eq_true rfl) d_p1m19_104 (fun H locs w => ?_)
        have w : pd_w G s H locs (pd_up h85 x (5, .inr (0, [.ref lb, .ref cl, .ref me, .ref ru, .ref bk, .long (sp + 1), .int (nI (an + 1)), .int (nI (gn + 1)), .int (nI sn), .int (nI (dn + (gr_jg n R k M u U cs v).2))]))) := w
        obtain ⟨h120, u123⟩ : ∃ z, z = pd_up h85 x (5, .inr (0, [.ref lb, .ref cl, .ref me, .ref ru, .ref bk, .long (sp + 1), .int (nI (an + 1)), .int (nI (gn + 1)), .int (nI sn), .int (nI (dn + (gr_jg n R k M u U cs v).2))])) := ⟨_, rfl⟩
        rw [← u123] at w
        have k121 : pd_kq x h85 h120 := by rw [u123]; exact pd_up_kq
        have f122 : h120 x = some (5, .inr (0, [.ref lb, .ref cl, .ref me, .ref ru, .ref bk, .long (sp + 1), .int (nI (an + 1)), .int (nI (gn + 1)), .int (nI sn), .int (nI (dn + (gr_jg n R k M u U cs v).2))])) := by rw [u123]; exact pd_up_s _ _ _
        have f124 := k121 _ _ (pd_ne f89 f87 (by simp)) f89
        have f125 := k121 _ _ (pd_ne f90 f87 (by simp)) f90
        have f126 := k121 _ _ (pd_ne f91 f87 (by simp)) f91
        have f127 := f92.kx (pd_kq.kx k121 f87) (show (0 : Nat) ∉ [5] by decide)
        have f128 := f93.kx (pd_kq.kx k121 f87) (show (1 : Nat) ∉ [5] by decide) (show (2 : Nat) ∉ [5] by decide)
        have f129 := f94.kx (pd_kq.kx k121 f87) (show (6 : Nat) ∉ [5] by decide) (show (10 : Nat) ∉ [5] by decide) (show (0 : Nat) ∉ [5] by decide)
        have f130 := f95.kx (pd_kq.kx k121 f87) (show (11 : Nat) ∉ [5] by decide) (show (12 : Nat) ∉ [5] by decide) (show (0 : Nat) ∉ [5] by decide)
        have f131 := f96.kx (pd_kq.kx k121 f87) (show (13 : Nat) ∉ [5] by decide) (show (14 : Nat) ∉ [5] by decide) (show (0 : Nat) ∉ [5] by decide)
        have f132 := f97.kx (pd_kq.kx k121 f87) (show (0 : Nat) ∉ [5] by decide)
        have f133 := f98.kx (pd_kq.kx k121 f87) (show (0 : Nat) ∉ [5] by decide)
        have f134 := f99.kx (pd_kq.kx k121 f87) (show (0 : Nat) ∉ [5] by decide)
        have f135 : pd_Str h120 a18 cs := ⟨_, _, f125, f126, gf30, gc31, gl32⟩
        have f136 := f101.kx (pd_kq.kx k121 f87) (show (15 : Nat) ∉ [5] by decide) (show (16 : Nat) ∉ [5] by decide) (show (17 : Nat) ∉ [5] by decide) (show (3 : Nat) ∉ [5] by decide) (show (4 : Nat) ∉ [5] by decide)
        refine lv_iload hx hb d_p1m19_107 (lv_at hl 0 rfl) ?_
        exact pd_iret (v := ((gr_jg n R k M u U cs v).1)) X w ⟨rfl, pd_kx.mono (us := [3, 4, 5, 15, 16, 17]) (pd_kx.tr (pd_kx.tr (pd_kx.tr (pd_kx.tr (pd_kx.mono (us := [5, 3, 4, 15, 16, 17]) (k7) (by simp)) (pd_kx.mono (us := [5, 3, 4, 15, 16, 17]) (k52) (by simp))) (pd_kx.mono (us := [5, 3, 4, 15, 16, 17]) (pd_kq.kx (k68) f54) (by simp))) (pd_kx.mono (us := [5, 3, 4, 15, 16, 17]) (pd_kq.kx (k86) f69) (by simp))) (pd_kx.mono (us := [5, 3, 4, 15, 16, 17]) (pd_kq.kx (k121) f87) (by simp))) (by simp), (by unfold gr_pay gr_gn; rw [if_neg q84, if_neg q102, if_neg q84]; exact ⟨lb, cl, me, ru, bk, f122, hz_x, f128, f129, f130, f131, f136, ht60⟩)⟩ (by decide) (by decide) d_p1m19_109
  · -- not taken: 7
    refine lv_aload_n hx hb d_p1m19_7 rfl (lv_at hl 2 rfl) ?_
    refine pd_gets X w (List.mem_of_getElem? (i := 18) rfl) mT_926 d_p1m19_8 ?_
    refine lv_acmp_ne (rx := (some (G.2.2.2 (10 + v)))) (ry := (some (G.2.2.2 22))) (tgt := 18) hx hb d_p1m19_11 (by decide) (fun q137 => ?_) (fun q137 => ?_)
    · -- taken: 18
      have hvb11 : ¬ v = 11 := (fun e9 => q1 (by rw [e9]))
      have hvb12 : ¬ v = 12 := (fun e9 => q137 (by rw [e9]))
      refine lv_iconst (v := nI 0) hx hb d_p1m19_18 (by decide) ?_
      refine lv_istore_n (lv' := [(3, .int (nI 0)), (0, .ref x), (1, .ref y), (2, .ref (G.2.2.2 (10 + v)))]) hx hb d_p1m19_19 rfl hl (by decide) rfl (fun ls hl => ?_)
      refine lv_iload_n hx hb d_p1m19_20 rfl (lv_at hl 0 rfl) ?_
      refine pd_zeq (tgt := 33) hx hb d_p1m19_21 (by decide) (by decide) (fun _ => ?_) (fun q => absurd q (by decide))
      refine lv_aload_n hx hb d_p1m19_33 rfl (lv_at hl 1 rfl) ?_
      refine lv_aload_n hx hb d_p1m19_34 rfl (lv_at hl 2 rfl) ?_
      refine lv_aload_n hx hb d_p1m19_35 rfl (lv_at hl 3 rfl) ?_
      refine pd_cV (a := x) (As := [.ref y, .ref (G.2.2.2 (10 + v))]) (rest := []) X w hx0 rfl (c_PolicyDesk_judgeClass l G h (by assumption) (by assumption) (by omega)) ok_PolicyDesk_judgeClass ⟨mT_978, sT_11⟩ mT_976 ⟨by decide, by decide⟩ rfl hl.1 rfl (Nat.le_of_ble_eq_true rfl) d_p1m19_36 ⟨by decide, by decide⟩ (fun r139 h140 H locs hp141 w => ?_)
      refine W.widen (k := 2) (n := 64) (by decide) (by decide) ?_
      obtain ⟨e142, k143, f144⟩ := hp141
      have f145 := hsb.kx k143 (show (1 : Nat) ∉ [5] by decide) (show (2 : Nat) ∉ [5] by decide)
      have f146 := hC.kx k143 (show (6 : Nat) ∉ [5] by decide) (show (10 : Nat) ∉ [5] by decide) (show (0 : Nat) ∉ [5] by decide)
      have f147 := hM.kx k143 (show (11 : Nat) ∉ [5] by decide) (show (12 : Nat) ∉ [5] by decide) (show (0 : Nat) ∉ [5] by decide)
      have f148 := hU.kx k143 (show (13 : Nat) ∉ [5] by decide) (show (14 : Nat) ∉ [5] by decide) (show (0 : Nat) ∉ [5] by decide)
      have f149 := hA.kx k143 (show (15 : Nat) ∉ [5] by decide) (show (16 : Nat) ∉ [5] by decide) (show (17 : Nat) ∉ [5] by decide) (show (3 : Nat) ∉ [5] by decide) (show (4 : Nat) ∉ [5] by decide)
      have f150 := hR.kx k143 (show (0 : Nat) ∉ [5] by decide)
      have f151 := hMR.kx k143 (show (0 : Nat) ∉ [5] by decide)
      have f152 := hRR.kx k143 (show (0 : Nat) ∉ [5] by decide)
      have f153 := hL.kx k143 (show (0 : Nat) ∉ [5] by decide)
      have hjg : gr_jg n R k M u U cs v = gr_jc n R M u U cs v := if_neg (fun h9 => h9.elim hvb11 hvb12)
      rw [← hjg] at e142 f144
      obtain ⟨lb, cl, me, ru, bk, hx0, hz_x, hsb, hC, hM, hU, hA, ht60⟩ := id f144
      have hR := hC.rows
      have hMR := hM.mrows
      have hRR := hU.rrows
      have hcw := hR.2.2
      have hAi := hR.2.1
      have hn14 := hcw.1
      subst e142
      have haok : gr_aok (gr_jg n R k M u U cs v).1 := gr_jg_ok (fun i9 hi9 => (hRR i9 hi9).2.2.1) (fun i9 hi9 => (hRR i9 hi9).2.2.2) (by obtain ⟨_, _, _, _, _, _, _, z9, _⟩ := hM; exact z9)
      refine lv_istore (lv' := [(4, .int ((gr_jg n R k M u U cs v).1)), (3, .int (nI 0)), (0, .ref x), (1, .ref y), (2, .ref (G.2.2.2 (10 + v)))]) hx hb d_p1m19_39 hl (by decide) rfl (fun ls hl => ?_)
      refine lv_aload_n hx hb d_p1m19_41 rfl (lv_at hl 2 rfl) ?_
      refine pd_get X w hx0 rfl 4 (by decide) mT_371 rfl rfl d_p1m19_42 ?_
      refine lv_aload_n hx hb d_p1m19_45 rfl (lv_at hl 2 rfl) ?_
      refine pd_get X w hx0 rfl 6 (by decide) mT_373 rfl rfl d_p1m19_46 ?_
      refine lv_aload_n hx hb d_p1m19_49 rfl (lv_at hl 3 rfl) ?_
      obtain ⟨a154, st155, fA156, f157, f158, nu159, f160⟩ := id f153
      have hc161 := (gr_cut_ok cs).1
      obtain ⟨v162, g163, f164, f165, gf166, gc167, gl168⟩ := id f160
      refine pd_get X w f157 rfl 0 (by decide) mT_541 rfl rfl d_p1m19_50 ?_
      refine lv_iload hx hb d_p1m19_53 (lv_at hl 0 rfl) ?_
      obtain ⟨le172, ln173, dr174, g175, g176, ds177, f178, f179, f180, f181, g182, z183, z184, hz185, hz186, hz187⟩ := id hA
      refine pd_cVv (a := bk) (As := [.int (nI an), .ref a154, .int ((gr_jg n R k M u U cs v).1)]) (rest := []) X w f178 rfl (c_Audit_write l G h140 (by assumption) (by omega) (by assumption) (by assumption)) ok_Audit_write ⟨mT_993, mT_994⟩ mT_992 ⟨by decide, by decide⟩ rfl hl.1 rfl (Nat.le_of_ble_eq_true rfl) d_p1m19_55 ⟨by decide, by decide⟩ (fun h170 H locs hp171 w => ?_)
      refine W.widen (k := 62) (n := 1664) (by decide) (by decide) ?_
      obtain ⟨k188, f189⟩ := hp171
      have f190 := k188 _ _ hx0 (show (5 : Nat) ∉ [3, 4, 15, 16, 17] by decide)
      have f191 := k188 _ _ f157 (show (0 : Nat) ∉ [3, 4, 15, 16, 17] by decide)
      have f192 := k188 _ _ f164 (show (0 : Nat) ∉ [3, 4, 15, 16, 17] by decide)
      have f193 := k188 _ _ f165 (show (0 : Nat) ∉ [3, 4, 15, 16, 17] by decide)
      have f194 := f153.kx k188 (show (0 : Nat) ∉ [3, 4, 15, 16, 17] by decide)
      have f195 := hsb.kx k188 (show (1 : Nat) ∉ [3, 4, 15, 16, 17] by decide) (show (2 : Nat) ∉ [3, 4, 15, 16, 17] by decide)
      have f196 := hC.kx k188 (show (6 : Nat) ∉ [3, 4, 15, 16, 17] by decide) (show (10 : Nat) ∉ [3, 4, 15, 16, 17] by decide) (show (0 : Nat) ∉ [3, 4, 15, 16, 17] by decide)
      have f197 := hM.kx k188 (show (11 : Nat) ∉ [3, 4, 15, 16, 17] by decide) (show (12 : Nat) ∉ [3, 4, 15, 16, 17] by decide) (show (0 : Nat) ∉ [3, 4, 15, 16, 17] by decide)
      have f198 := hU.kx k188 (show (13 : Nat) ∉ [3, 4, 15, 16, 17] by decide) (show (14 : Nat) ∉ [3, 4, 15, 16, 17] by decide) (show (0 : Nat) ∉ [3, 4, 15, 16, 17] by decide)
      have f199 := hR.kx k188 (show (0 : Nat) ∉ [3, 4, 15, 16, 17] by decide)
      have f200 := hMR.kx k188 (show (0 : Nat) ∉ [3, 4, 15, 16, 17] by decide)
      have f201 := hRR.kx k188 (show (0 : Nat) ∉ [3, 4, 15, 16, 17] by decide)
      have f202 := f160.kx k188 (show (0 : Nat) ∉ [3, 4, 15, 16, 17] by decide)
      refine lv_aload_n hx hb d_p1m19_58 rfl (lv_at hl 2 rfl) ?_
      refine lv_dup hx hb d_p1m19_59 rfl ?_
      refine pd_get X w f190 rfl 6 (by decide) mT_373 rfl rfl d_p1m19_60 ?_
      refine lv_iconst (v := nI 1) hx hb d_p1m19_63 (by decide) ?_
      refine pd_iadd hx hb d_p1m19_64 ?_
      refine pd_put (ty := .int) X w f190 hz_x rfl 6 (by decide) mT_373 rfl rfl (by decide +kernel) rfl rfl (Nat.le_of_ble_eq_true rfl) d_p1m19_65 (fun H locs w => ?_)
      have w : pd_w G s H locs (pd_up h170 x (5, .inr (0, [.ref lb, .ref cl, .ref me, .ref ru, .ref bk, .long sp, .int (nI (an + 1)), .int (nI gn), .int (nI sn), .int (nI (dn + (gr_jg n R k M u U cs v).2))]))) := w
      obtain ⟨h203, u206⟩ : ∃ z, z = pd_up h170 x (5, .inr (0, [.ref lb, .ref cl, .ref me, .ref ru, .ref bk, .long sp, .int (nI (an + 1)), .int (nI gn), .int (nI sn), .int (nI (dn + (gr_jg n R k M u U cs v).2))])) := ⟨_, rfl⟩
      rw [← u206] at w
      have k204 : pd_kq x h170 h203 := by rw [u206]; exact pd_up_kq
      have f205 : h203 x = some (5, .inr (0, [.ref lb, .ref cl, .ref me, .ref ru, .ref bk, .long sp, .int (nI (an + 1)), .int (nI gn), .int (nI sn), .int (nI (dn + (gr_jg n R k M u U cs v).2))])) := by rw [u206]; exact pd_up_s _ _ _
      have f207 := k204 _ _ (pd_ne f191 f190 (by simp)) f191
      have f208 := k204 _ _ (pd_ne f192 f190 (by simp)) f192
      have f209 := k204 _ _ (pd_ne f193 f190 (by simp)) f193
      have f210 := f194.kx (pd_kq.kx k204 f190) (show (0 : Nat) ∉ [5] by decide)
      have f211 := f195.kx (pd_kq.kx k204 f190) (show (1 : Nat) ∉ [5] by decide) (show (2 : Nat) ∉ [5] by decide)
      have f212 := f196.kx (pd_kq.kx k204 f190) (show (6 : Nat) ∉ [5] by decide) (show (10 : Nat) ∉ [5] by decide) (show (0 : Nat) ∉ [5] by decide)
      have f213 := f197.kx (pd_kq.kx k204 f190) (show (11 : Nat) ∉ [5] by decide) (show (12 : Nat) ∉ [5] by decide) (show (0 : Nat) ∉ [5] by decide)
      have f214 := f198.kx (pd_kq.kx k204 f190) (show (13 : Nat) ∉ [5] by decide) (show (14 : Nat) ∉ [5] by decide) (show (0 : Nat) ∉ [5] by decide)
      have f215 := f199.kx (pd_kq.kx k204 f190) (show (0 : Nat) ∉ [5] by decide)
      have f216 := f200.kx (pd_kq.kx k204 f190) (show (0 : Nat) ∉ [5] by decide)
      have f217 := f201.kx (pd_kq.kx k204 f190) (show (0 : Nat) ∉ [5] by decide)
      have f218 : pd_Str h203 a154 cs := ⟨_, _, f208, f209, gf166, gc167, gl168⟩
      have f219 := f189.kx (pd_kq.kx k204 f190) (show (15 : Nat) ∉ [5] by decide) (show (16 : Nat) ∉ [5] by decide) (show (17 : Nat) ∉ [5] by decide) (show (3 : Nat) ∉ [5] by decide) (show (4 : Nat) ∉ [5] by decide)
      refine lv_iload hx hb d_p1m19_68 (lv_at hl 0 rfl) ?_
      refine lv_if_lt (tgt := 107) hx hb d_p1m19_70 (by decide) (fun q220 => ?_) (fun q220 => ?_)
      · -- taken: 107
        refine lv_iload hx hb d_p1m19_107 (lv_at hl 0 rfl) ?_
        exact pd_iret (v := ((gr_jg n R k M u U cs v).1)) X w ⟨rfl, pd_kx.mono (us := [3, 4, 5, 15, 16, 17]) (pd_kx.tr (pd_kx.tr (pd_kx.mono (us := [5, 3, 4, 15, 16, 17]) (k143) (by simp)) (pd_kx.mono (us := [5, 3, 4, 15, 16, 17]) (k188) (by simp))) (pd_kx.mono (us := [5, 3, 4, 15, 16, 17]) (pd_kq.kx (k204) f190) (by simp))) (by simp), (by unfold gr_pay gr_gn; rw [if_pos q220, if_pos q220]; exact ⟨lb, cl, me, ru, bk, f205, hz_x, f211, f212, f213, f214, f219, ht60⟩)⟩ (by decide) (by decide) d_p1m19_109
      · -- not taken: 73
        refine lv_aload_n hx hb d_p1m19_73 rfl (lv_at hl 2 rfl) ?_
        refine lv_dup hx hb d_p1m19_74 rfl ?_
        refine pd_get X w f205 rfl 7 (by decide) mT_374 rfl rfl d_p1m19_75 ?_
        refine lv_iconst (v := nI 1) hx hb d_p1m19_78 (by decide) ?_
        refine pd_iadd hx hb d_p1m19_79 ?_
        refine pd_put (ty := .int) X w f205 hz_x rfl 7 (by decide) mT_374 rfl rfl (by decide +kernel) rfl rfl (Nat.le_of_ble_eq_true rfl) d_p1m19_80 (fun H locs w => ?_)
        have w : pd_w G s H locs (pd_up h203 x (5, .inr (0, [.ref lb, .ref cl, .ref me, .ref ru, .ref bk, .long sp, .int (nI (an + 1)), .int (nI (gn + 1)), .int (nI sn), .int (nI (dn + (gr_jg n R k M u U cs v).2))]))) := w
        obtain ⟨h221, u224⟩ : ∃ z, z = pd_up h203 x (5, .inr (0, [.ref lb, .ref cl, .ref me, .ref ru, .ref bk, .long sp, .int (nI (an + 1)), .int (nI (gn + 1)), .int (nI sn), .int (nI (dn + (gr_jg n R k M u U cs v).2))])) := ⟨_, rfl⟩
        rw [← u224] at w
        have k222 : pd_kq x h203 h221 := by rw [u224]; exact pd_up_kq
        have f223 : h221 x = some (5, .inr (0, [.ref lb, .ref cl, .ref me, .ref ru, .ref bk, .long sp, .int (nI (an + 1)), .int (nI (gn + 1)), .int (nI sn), .int (nI (dn + (gr_jg n R k M u U cs v).2))])) := by rw [u224]; exact pd_up_s _ _ _
        have f225 := k222 _ _ (pd_ne f207 f205 (by simp)) f207
        have f226 := k222 _ _ (pd_ne f208 f205 (by simp)) f208
        have f227 := k222 _ _ (pd_ne f209 f205 (by simp)) f209
        have f228 := f210.kx (pd_kq.kx k222 f205) (show (0 : Nat) ∉ [5] by decide)
        have f229 := f211.kx (pd_kq.kx k222 f205) (show (1 : Nat) ∉ [5] by decide) (show (2 : Nat) ∉ [5] by decide)
        have f230 := f212.kx (pd_kq.kx k222 f205) (show (6 : Nat) ∉ [5] by decide) (show (10 : Nat) ∉ [5] by decide) (show (0 : Nat) ∉ [5] by decide)
        have f231 := f213.kx (pd_kq.kx k222 f205) (show (11 : Nat) ∉ [5] by decide) (show (12 : Nat) ∉ [5] by decide) (show (0 : Nat) ∉ [5] by decide)
        have f232 := f214.kx (pd_kq.kx k222 f205) (show (13 : Nat) ∉ [5] by decide) (show (14 : Nat) ∉ [5] by decide) (show (0 : Nat) ∉ [5] by decide)
        have f233 := f215.kx (pd_kq.kx k222 f205) (show (0 : Nat) ∉ [5] by decide)
        have f234 := f216.kx (pd_kq.kx k222 f205) (show (0 : Nat) ∉ [5] by decide)
        have f235 := f217.kx (pd_kq.kx k222 f205) (show (0 : Nat) ∉ [5] by decide)
        have f236 : pd_Str h221 a154 cs := ⟨_, _, f226, f227, gf166, gc167, gl168⟩
        have f237 := f219.kx (pd_kq.kx k222 f205) (show (15 : Nat) ∉ [5] by decide) (show (16 : Nat) ∉ [5] by decide) (show (17 : Nat) ∉ [5] by decide) (show (3 : Nat) ∉ [5] by decide) (show (4 : Nat) ∉ [5] by decide)
        refine lv_aload_n hx hb d_p1m19_83 rfl (lv_at hl 2 rfl) ?_
        refine lv_dup hx hb d_p1m19_84 rfl ?_
        refine pd_get X w f223 rfl 5 (by decide) mT_372 rfl rfl d_p1m19_85 ?_
        refine lv_iload hx hb d_p1m19_88 (lv_at hl 0 rfl) ?_
        refine lv_sipush (v := nI 10000) hx hb d_p1m19_90 (by decide) ?_
        refine lv_icmp_lt (tgt := 100) hx hb d_p1m19_93 (by decide) (fun q238 => ?_) (fun q238 => ?_)
        · -- taken: 100
          refine lv_iload hx hb d_p1m19_100 (lv_at hl 0 rfl) ?_
          refine lv_i2l hx hb d_p1m19_102 rfl ?_
          refine lv_ladd hx hb d_p1m19_103 ?_
          refine pd_put (ty := .long) X w f223 hz_x rfl 5 (by decide) mT_372 rfl rfl (by decide +kernel) rfl rfl (Nat.le_of_ble_eq_true rfl) d_p1m19_104 (fun H locs w => ?_)
          have w : pd_w G s H locs (pd_up h221 x (5, .inr (0, [.ref lb, .ref cl, .ref me, .ref ru, .ref bk, .long (sp + (((gr_jg n R k M u U cs v).1).toInt64)), .int (nI (an + 1)), .int (nI (gn + 1)), .int (nI sn), .int (nI (dn + (gr_jg n R k M u U cs v).2))]))) := w
          obtain ⟨h239, u242⟩ : ∃ z, z = pd_up h221 x (5, .inr (0, [.ref lb, .ref cl, .ref me, .ref ru, .ref bk, .long (sp + (((gr_jg n R k M u U cs v).1).toInt64)), .int (nI (an + 1)), .int (nI (gn + 1)), .int (nI sn), .int (nI (dn + (gr_jg n R k M u U cs v).2))])) := ⟨_, rfl⟩
          rw [← u242] at w
          have k240 : pd_kq x h221 h239 := by rw [u242]; exact pd_up_kq
          have f241 : h239 x = some (5, .inr (0, [.ref lb, .ref cl, .ref me, .ref ru, .ref bk, .long (sp + (((gr_jg n R k M u U cs v).1).toInt64)), .int (nI (an + 1)), .int (nI (gn + 1)), .int (nI sn), .int (nI (dn + (gr_jg n R k M u U cs v).2))])) := by rw [u242]; exact pd_up_s _ _ _
          have f243 := k240 _ _ (pd_ne f225 f223 (by simp)) f225
          have f244 := k240 _ _ (pd_ne f226 f223 (by simp)) f226
          have f245 := k240 _ _ (pd_ne f227 f223 (by simp)) f227
          have f246 := f228.kx (pd_kq.kx k240 f223) (show (0 : Nat) ∉ [5] by decide)
          have f247 := f229.kx (pd_kq.kx k240 f223) (show (1 : Nat) ∉ [5] by decide) (show (2 : Nat) ∉ [5] by decide)
          have f248 := f230.kx (pd_kq.kx k240 f223) (show (6 : Nat) ∉ [5] by decide) (show (10 : Nat) ∉ [5] by decide) (show (0 : Nat) ∉ [5] by decide)
          have f249 := f231.kx (pd_kq.kx k240 f223) (show (11 : Nat) ∉ [5] by decide) (show (12 : Nat) ∉ [5] by decide) (show (0 : Nat) ∉ [5] by decide)
          have f250 := f232.kx (pd_kq.kx k240 f223) (show (13 : Nat) ∉ [5] by decide) (show (14 : Nat) ∉ [5] by decide) (show (0 : Nat) ∉ [5] by decide)
          have f251 := f233.kx (pd_kq.kx k240 f223) (show (0 : Nat) ∉ [5] by decide)
          have f252 := f234.kx (pd_kq.kx k240 f223) (show (0 : Nat) ∉ [5] by decide)
          have f253 := f235.kx (pd_kq.kx k240 f223) (show (0 : Nat) ∉ [5] by decide)
          have f254 : pd_Str h239 a154 cs := ⟨_, _, f244, f245, gf166, gc167, gl168⟩
          have f255 := f237.kx (pd_kq.kx k240 f223) (show (15 : Nat) ∉ [5] by decide) (show (16 : Nat) ∉ [5] by decide) (show (17 : Nat) ∉ [5] by decide) (show (3 : Nat) ∉ [5] by decide) (show (4 : Nat) ∉ [5] by decide)
          refine lv_iload hx hb d_p1m19_107 (lv_at hl 0 rfl) ?_
          exact pd_iret (v := ((gr_jg n R k M u U cs v).1)) X w ⟨rfl, pd_kx.mono (us := [3, 4, 5, 15, 16, 17]) (pd_kx.tr (pd_kx.tr (pd_kx.tr (pd_kx.tr (pd_kx.mono (us := [5, 3, 4, 15, 16, 17]) (k143) (by simp)) (pd_kx.mono (us := [5, 3, 4, 15, 16, 17]) (k188) (by simp))) (pd_kx.mono (us := [5, 3, 4, 15, 16, 17]) (pd_kq.kx (k204) f190) (by simp))) (pd_kx.mono (us := [5, 3, 4, 15, 16, 17]) (pd_kq.kx (k222) f205) (by simp))) (pd_kx.mono (us := [5, 3, 4, 15, 16, 17]) (pd_kq.kx (k240) f223) (by simp))) (by simp), (by unfold gr_pay gr_gn; rw [if_neg q220, if_pos q238, if_neg q220]; exact ⟨lb, cl, me, ru, bk, f241, hz_x, f247, f248, f249, f250, f255, ht60⟩)⟩ (by decide) (by decide) d_p1m19_109
        · -- not taken: 96
          refine lv_lconst (v := 1) hx hb d_p1m19_96 (by decide) ?_
          refine lv_goto (tgt := 103) hx hb d_p1m19_97 (by decide) ?_
          refine lv_ladd hx hb d_p1m19_103 ?_
          refine pd_put (ty := .long) X w f223 hz_x rfl 5 (by decide) mT_372 rfl rfl (by decide +kernel) rfl rfl (Nat.le_of_ble_eq_true rfl) d_p1m19_104 (fun H locs w => ?_)
          have w : pd_w G s H locs (pd_up h221 x (5, .inr (0, [.ref lb, .ref cl, .ref me, .ref ru, .ref bk, .long (sp + 1), .int (nI (an + 1)), .int (nI (gn + 1)), .int (nI sn), .int (nI (dn + (gr_jg n R k M u U cs v).2))]))) := w
          obtain ⟨h256, u259⟩ : ∃ z, z = pd_up h221 x (5, .inr (0, [.ref lb, .ref cl, .ref me, .ref ru, .ref bk, .long (sp + 1), .int (nI (an + 1)), .int (nI (gn + 1)), .int (nI sn), .int (nI (dn + (gr_jg n R k M u U cs v).2))])) := ⟨_, rfl⟩
          rw [← u259] at w
          have k257 : pd_kq x h221 h256 := by rw [u259]; exact pd_up_kq
          have f258 : h256 x = some (5, .inr (0, [.ref lb, .ref cl, .ref me, .ref ru, .ref bk, .long (sp + 1), .int (nI (an + 1)), .int (nI (gn + 1)), .int (nI sn), .int (nI (dn + (gr_jg n R k M u U cs v).2))])) := by rw [u259]; exact pd_up_s _ _ _
          have f260 := k257 _ _ (pd_ne f225 f223 (by simp)) f225
          have f261 := k257 _ _ (pd_ne f226 f223 (by simp)) f226
          have f262 := k257 _ _ (pd_ne f227 f223 (by simp)) f227
          have f263 := f228.kx (pd_kq.kx k257 f223) (show (0 : Nat) ∉ [5] by decide)
          have f264 := f229.kx (pd_kq.kx k257 f223) (show (1 : Nat) ∉ [5] by decide) (show (2 : Nat) ∉ [5] by decide)
          have f265 := f230.kx (pd_kq.kx k257 f223) (show (6 : Nat) ∉ [5] by decide) (show (10 : Nat) ∉ [5] by decide) (show (0 : Nat) ∉ [5] by decide)
          have f266 := f231.kx (pd_kq.kx k257 f223) (show (11 : Nat) ∉ [5] by decide) (show (12 : Nat) ∉ [5] by decide) (show (0 : Nat) ∉ [5] by decide)
          have f267 := f232.kx (pd_kq.kx k257 f223) (show (13 : Nat) ∉ [5] by decide) (show (14 : Nat) ∉ [5] by decide) (show (0 : Nat) ∉ [5] by decide)
          have f268 := f233.kx (pd_kq.kx k257 f223) (show (0 : Nat) ∉ [5] by decide)
          have f269 := f234.kx (pd_kq.kx k257 f223) (show (0 : Nat) ∉ [5] by decide)
          have f270 := f235.kx (pd_kq.kx k257 f223) (show (0 : Nat) ∉ [5] by decide)
          have f271 : pd_Str h256 a154 cs := ⟨_, _, f261, f262, gf166, gc167, gl168⟩
          have f272 := f237.kx (pd_kq.kx k257 f223) (show (15 : Nat) ∉ [5] by decide) (show (16 : Nat) ∉ [5] by decide) (show (17 : Nat) ∉ [5] by decide) (show (3 : Nat) ∉ [5] by decide) (show (4 : Nat) ∉ [5] by decide)
          refine lv_iload hx hb d_p1m19_107 (lv_at hl 0 rfl) ?_
          exact pd_iret (v := ((gr_jg n R k M u U cs v).1)) X w ⟨rfl, pd_kx.mono (us := [3, 4, 5, 15, 16, 17]) (pd_kx.tr (pd_kx.tr (pd_kx.tr (pd_kx.tr (pd_kx.mono (us := [5, 3, 4, 15, 16, 17]) (k143) (by simp)) (pd_kx.mono (us := [5, 3, 4, 15, 16, 17]) (k188) (by simp))) (pd_kx.mono (us := [5, 3, 4, 15, 16, 17]) (pd_kq.kx (k204) f190) (by simp))) (pd_kx.mono (us := [5, 3, 4, 15, 16, 17]) (pd_kq.kx (k222) f205) (by simp))) (pd_kx.mono (us := [5, 3, 4, 15, 16, 17]) (pd_kq.kx (k257) f223) (by simp))) (by simp), (by unfold gr_pay gr_gn; rw [if_neg q220, if_neg q238, if_neg q220]; exact ⟨lb, cl, me, ru, bk, f258, hz_x, f264, f265, f266, f267, f272, ht60⟩)⟩ (by decide) (by decide) d_p1m19_109
    · -- not taken: 14
      have hvb12 : v = 12 := ((pd_Kf_of X).2.2.2.2.2.2 _ 12 hv (by decide) (Option.some.inj q137))
      refine lv_iconst (v := nI 1) hx hb d_p1m19_14 (by decide) ?_
      refine lv_goto (tgt := 19) hx hb d_p1m19_15 (by decide) ?_
      refine lv_istore_n (lv' := [(3, .int (nI 1)), (0, .ref x), (1, .ref y), (2, .ref (G.2.2.2 (10 + v)))]) hx hb d_p1m19_19 rfl hl (by decide) rfl (fun ls hl => ?_)
      refine lv_iload_n hx hb d_p1m19_20 rfl (lv_at hl 0 rfl) ?_
      refine pd_zeq (tgt := 33) hx hb d_p1m19_21 (by decide) (by decide) (fun q => absurd q (by decide)) (fun _ => ?_)
      refine lv_aload_n hx hb d_p1m19_24 rfl (lv_at hl 1 rfl) ?_
      refine lv_aload_n hx hb d_p1m19_25 rfl (lv_at hl 2 rfl) ?_
      refine lv_aload_n hx hb d_p1m19_26 rfl (lv_at hl 3 rfl) ?_
      refine pd_cV (a := x) (As := [.ref y, .ref (G.2.2.2 (10 + v))]) (rest := []) X w hx0 rfl (c_PolicyDesk_judgeMember l G h (by assumption) (by assumption) (by omega)) ok_PolicyDesk_judgeMember ⟨mT_930, sT_8⟩ mT_928 ⟨by decide, by decide⟩ rfl hl.1 rfl (Nat.le_of_ble_eq_true rfl) d_p1m19_27 ⟨by decide, by decide⟩ (fun r274 h275 H locs hp276 w => ?_)
      refine W.widen (k := 10) (n := 320) (by decide) (by decide) ?_
      obtain ⟨e277, k278, f279⟩ := hp276
      have f280 := hsb.kx k278 (show (1 : Nat) ∉ [5] by decide) (show (2 : Nat) ∉ [5] by decide)
      have f281 := hC.kx k278 (show (6 : Nat) ∉ [5] by decide) (show (10 : Nat) ∉ [5] by decide) (show (0 : Nat) ∉ [5] by decide)
      have f282 := hM.kx k278 (show (11 : Nat) ∉ [5] by decide) (show (12 : Nat) ∉ [5] by decide) (show (0 : Nat) ∉ [5] by decide)
      have f283 := hU.kx k278 (show (13 : Nat) ∉ [5] by decide) (show (14 : Nat) ∉ [5] by decide) (show (0 : Nat) ∉ [5] by decide)
      have f284 := hA.kx k278 (show (15 : Nat) ∉ [5] by decide) (show (16 : Nat) ∉ [5] by decide) (show (17 : Nat) ∉ [5] by decide) (show (3 : Nat) ∉ [5] by decide) (show (4 : Nat) ∉ [5] by decide)
      have f285 := hR.kx k278 (show (0 : Nat) ∉ [5] by decide)
      have f286 := hMR.kx k278 (show (0 : Nat) ∉ [5] by decide)
      have f287 := hRR.kx k278 (show (0 : Nat) ∉ [5] by decide)
      have f288 := hL.kx k278 (show (0 : Nat) ∉ [5] by decide)
      refine lv_goto (tgt := 39) hx hb d_p1m19_30 (by decide) ?_
      have hjg : gr_jg n R k M u U cs v = gr_jm n R k M u U cs v := if_pos (Or.inr hvb12)
      rw [← hjg] at e277 f279
      obtain ⟨lb, cl, me, ru, bk, hx0, hz_x, hsb, hC, hM, hU, hA, ht60⟩ := id f279
      have hR := hC.rows
      have hMR := hM.mrows
      have hRR := hU.rrows
      have hcw := hR.2.2
      have hAi := hR.2.1
      have hn14 := hcw.1
      subst e277
      have haok : gr_aok (gr_jg n R k M u U cs v).1 := gr_jg_ok (fun i9 hi9 => (hRR i9 hi9).2.2.1) (fun i9 hi9 => (hRR i9 hi9).2.2.2) (by obtain ⟨_, _, _, _, _, _, _, z9, _⟩ := hM; exact z9)
      refine lv_istore (lv' := [(4, .int ((gr_jg n R k M u U cs v).1)), (3, .int (nI 1)), (0, .ref x), (1, .ref y), (2, .ref (G.2.2.2 (10 + v)))]) hx hb d_p1m19_39 hl (by decide) rfl (fun ls hl => ?_)
      refine lv_aload_n hx hb d_p1m19_41 rfl (lv_at hl 2 rfl) ?_
      refine pd_get X w hx0 rfl 4 (by decide) mT_371 rfl rfl d_p1m19_42 ?_
      refine lv_aload_n hx hb d_p1m19_45 rfl (lv_at hl 2 rfl) ?_
      refine pd_get X w hx0 rfl 6 (by decide) mT_373 rfl rfl d_p1m19_46 ?_
      refine lv_aload_n hx hb d_p1m19_49 rfl (lv_at hl 3 rfl) ?_
      obtain ⟨a289, st290, fA291, f292, f293, nu294, f295⟩ := id f288
      have hc296 := (gr_cut_ok cs).1
      obtain ⟨v297, g298, f299, f300, gf301, gc302, gl303⟩ := id f295
      refine pd_get X w f292 rfl 0 (by decide) mT_541 rfl rfl d_p1m19_50 ?_
      refine lv_iload hx hb d_p1m19_53 (lv_at hl 0 rfl) ?_
      obtain ⟨le307, ln308, dr309, g310, g311, ds312, f313, f314, f315, f316, g317, z318, z319, hz320, hz321, hz322⟩ := id hA
      refine pd_cVv (a := bk) (As := [.int (nI an), .ref a289, .int ((gr_jg n R k M u U cs v).1)]) (rest := []) X w f313 rfl (c_Audit_write l G h275 (by assumption) (by omega) (by assumption) (by assumption)) ok_Audit_write ⟨mT_993, mT_994⟩ mT_992 ⟨by decide, by decide⟩ rfl hl.1 rfl (Nat.le_of_ble_eq_true rfl) d_p1m19_55 ⟨by decide, by decide⟩ (fun h305 H locs hp306 w => ?_)
      refine W.widen (k := 70) (n := 1920) (by decide) (by decide) ?_
      obtain ⟨k323, f324⟩ := hp306
      have f325 := k323 _ _ hx0 (show (5 : Nat) ∉ [3, 4, 15, 16, 17] by decide)
      have f326 := k323 _ _ f292 (show (0 : Nat) ∉ [3, 4, 15, 16, 17] by decide)
      have f327 := k323 _ _ f299 (show (0 : Nat) ∉ [3, 4, 15, 16, 17] by decide)
      have f328 := k323 _ _ f300 (show (0 : Nat) ∉ [3, 4, 15, 16, 17] by decide)
      have f329 := f288.kx k323 (show (0 : Nat) ∉ [3, 4, 15, 16, 17] by decide)
      have f330 := hsb.kx k323 (show (1 : Nat) ∉ [3, 4, 15, 16, 17] by decide) (show (2 : Nat) ∉ [3, 4, 15, 16, 17] by decide)
      have f331 := hC.kx k323 (show (6 : Nat) ∉ [3, 4, 15, 16, 17] by decide) (show (10 : Nat) ∉ [3, 4, 15, 16, 17] by decide) (show (0 : Nat) ∉ [3, 4, 15, 16, 17] by decide)
      have f332 := hM.kx k323 (show (11 : Nat) ∉ [3, 4, 15, 16, 17] by decide) (show (12 : Nat) ∉ [3, 4, 15, 16, 17] by decide) (show (0 : Nat) ∉ [3, 4, 15, 16, 17] by decide)
      have f333 := hU.kx k323 (show (13 : Nat) ∉ [3, 4, 15, 16, 17] by decide) (show (14 : Nat) ∉ [3, 4, 15, 16, 17] by decide) (show (0 : Nat) ∉ [3, 4, 15, 16, 17] by decide)
      have f334 := hR.kx k323 (show (0 : Nat) ∉ [3, 4, 15, 16, 17] by decide)
      have f335 := hMR.kx k323 (show (0 : Nat) ∉ [3, 4, 15, 16, 17] by decide)
      have f336 := hRR.kx k323 (show (0 : Nat) ∉ [3, 4, 15, 16, 17] by decide)
      have f337 := f295.kx k323 (show (0 : Nat) ∉ [3, 4, 15, 16, 17] by decide)
      refine lv_aload_n hx hb d_p1m19_58 rfl (lv_at hl 2 rfl) ?_
      refine lv_dup hx hb d_p1m19_59 rfl ?_
      refine pd_get X w f325 rfl 6 (by decide) mT_373 rfl rfl d_p1m19_60 ?_
      refine lv_iconst (v := nI 1) hx hb d_p1m19_63 (by decide) ?_
      refine pd_iadd hx hb d_p1m19_64 ?_
      refine pd_put (ty := .int) X w f325 hz_x rfl 6 (by decide) mT_373 rfl rfl (by decide +kernel) rfl rfl (Nat.le_of_ble_eq_true rfl) d_p1m19_65 (fun H locs w => ?_)
      have w : pd_w G s H locs (pd_up h305 x (5, .inr (0, [.ref lb, .ref cl, .ref me, .ref ru, .ref bk, .long sp, .int (nI (an + 1)), .int (nI gn), .int (nI sn), .int (nI (dn + (gr_jg n R k M u U cs v).2))]))) := w
      obtain ⟨h338, u341⟩ : ∃ z, z = pd_up h305 x (5, .inr (0, [.ref lb, .ref cl, .ref me, .ref ru, .ref bk, .long sp, .int (nI (an + 1)), .int (nI gn), .int (nI sn), .int (nI (dn + (gr_jg n R k M u U cs v).2))])) := ⟨_, rfl⟩
      rw [← u341] at w
      have k339 : pd_kq x h305 h338 := by rw [u341]; exact pd_up_kq
      have f340 : h338 x = some (5, .inr (0, [.ref lb, .ref cl, .ref me, .ref ru, .ref bk, .long sp, .int (nI (an + 1)), .int (nI gn), .int (nI sn), .int (nI (dn + (gr_jg n R k M u U cs v).2))])) := by rw [u341]; exact pd_up_s _ _ _
      have f342 := k339 _ _ (pd_ne f326 f325 (by simp)) f326
      have f343 := k339 _ _ (pd_ne f327 f325 (by simp)) f327
      have f344 := k339 _ _ (pd_ne f328 f325 (by simp)) f328
      have f345 := f329.kx (pd_kq.kx k339 f325) (show (0 : Nat) ∉ [5] by decide)
      have f346 := f330.kx (pd_kq.kx k339 f325) (show (1 : Nat) ∉ [5] by decide) (show (2 : Nat) ∉ [5] by decide)
      have f347 := f331.kx (pd_kq.kx k339 f325) (show (6 : Nat) ∉ [5] by decide) (show (10 : Nat) ∉ [5] by decide) (show (0 : Nat) ∉ [5] by decide)
      have f348 := f332.kx (pd_kq.kx k339 f325) (show (11 : Nat) ∉ [5] by decide) (show (12 : Nat) ∉ [5] by decide) (show (0 : Nat) ∉ [5] by decide)
      have f349 := f333.kx (pd_kq.kx k339 f325) (show (13 : Nat) ∉ [5] by decide) (show (14 : Nat) ∉ [5] by decide) (show (0 : Nat) ∉ [5] by decide)
      have f350 := f334.kx (pd_kq.kx k339 f325) (show (0 : Nat) ∉ [5] by decide)
      have f351 := f335.kx (pd_kq.kx k339 f325) (show (0 : Nat) ∉ [5] by decide)
      have f352 := f336.kx (pd_kq.kx k339 f325) (show (0 : Nat) ∉ [5] by decide)
      have f353 : pd_Str h338 a289 cs := ⟨_, _, f343, f344, gf301, gc302, gl303⟩
      have f354 := f324.kx (pd_kq.kx k339 f325) (show (15 : Nat) ∉ [5] by decide) (show (16 : Nat) ∉ [5] by decide) (show (17 : Nat) ∉ [5] by decide) (show (3 : Nat) ∉ [5] by decide) (show (4 : Nat) ∉ [5] by decide)
      refine lv_iload hx hb d_p1m19_68 (lv_at hl 0 rfl) ?_
      refine lv_if_lt (tgt := 107) hx hb d_p1m19_70 (by decide) (fun q355 => ?_) (fun q355 => ?_)
      · -- taken: 107
        refine lv_iload hx hb d_p1m19_107 (lv_at hl 0 rfl) ?_
        exact pd_iret (v := ((gr_jg n R k M u U cs v).1)) X w ⟨rfl, pd_kx.mono (us := [3, 4, 5, 15, 16, 17]) (pd_kx.tr (pd_kx.tr (pd_kx.mono (us := [5, 3, 4, 15, 16, 17]) (k278) (by simp)) (pd_kx.mono (us := [5, 3, 4, 15, 16, 17]) (k323) (by simp))) (pd_kx.mono (us := [5, 3, 4, 15, 16, 17]) (pd_kq.kx (k339) f325) (by simp))) (by simp), (by unfold gr_pay gr_gn; rw [if_pos q355, if_pos q355]; exact ⟨lb, cl, me, ru, bk, f340, hz_x, f346, f347, f348, f349, f354, ht60⟩)⟩ (by decide) (by decide) d_p1m19_109
      · -- not taken: 73
        refine lv_aload_n hx hb d_p1m19_73 rfl (lv_at hl 2 rfl) ?_
        refine lv_dup hx hb d_p1m19_74 rfl ?_
        refine pd_get X w f340 rfl 7 (by decide) mT_374 rfl rfl d_p1m19_75 ?_
        refine lv_iconst (v := nI 1) hx hb d_p1m19_78 (by decide) ?_
        refine pd_iadd hx hb d_p1m19_79 ?_
        refine pd_put (ty := .int) X w f340 hz_x rfl 7 (by decide) mT_374 rfl rfl (by decide +kernel) rfl rfl (Nat.le_of_ble_eq_true rfl) d_p1m19_80 (fun H locs w => ?_)
        have w : pd_w G s H locs (pd_up h338 x (5, .inr (0, [.ref lb, .ref cl, .ref me, .ref ru, .ref bk, .long sp, .int (nI (an + 1)), .int (nI (gn + 1)), .int (nI sn), .int (nI (dn + (gr_jg n R k M u U cs v).2))]))) := w
        obtain ⟨h356, u359⟩ : ∃ z, z = pd_up h338 x (5, .inr (0, [.ref lb, .ref cl, .ref me, .ref ru, .ref bk, .long sp, .int (nI (an + 1)), .int (nI (gn + 1)), .int (nI sn), .int (nI (dn + (gr_jg n R k M u U cs v).2))])) := ⟨_, rfl⟩
        rw [← u359] at w
        have k357 : pd_kq x h338 h356 := by rw [u359]; exact pd_up_kq
        have f358 : h356 x = some (5, .inr (0, [.ref lb, .ref cl, .ref me, .ref ru, .ref bk, .long sp, .int (nI (an + 1)), .int (nI (gn + 1)), .int (nI sn), .int (nI (dn + (gr_jg n R k M u U cs v).2))])) := by rw [u359]; exact pd_up_s _ _ _
        have f360 := k357 _ _ (pd_ne f342 f340 (by simp)) f342
        have f361 := k357 _ _ (pd_ne f343 f340 (by simp)) f343
        have f362 := k357 _ _ (pd_ne f344 f340 (by simp)) f344
        have f363 := f345.kx (pd_kq.kx k357 f340) (show (0 : Nat) ∉ [5] by decide)
        have f364 := f346.kx (pd_kq.kx k357 f340) (show (1 : Nat) ∉ [5] by decide) (show (2 : Nat) ∉ [5] by decide)
        have f365 := f347.kx (pd_kq.kx k357 f340) (show (6 : Nat) ∉ [5] by decide) (show (10 : Nat) ∉ [5] by decide) (show (0 : Nat) ∉ [5] by decide)
        have f366 := f348.kx (pd_kq.kx k357 f340) (show (11 : Nat) ∉ [5] by decide) (show (12 : Nat) ∉ [5] by decide) (show (0 : Nat) ∉ [5] by decide)
        have f367 := f349.kx (pd_kq.kx k357 f340) (show (13 : Nat) ∉ [5] by decide) (show (14 : Nat) ∉ [5] by decide) (show (0 : Nat) ∉ [5] by decide)
        have f368 := f350.kx (pd_kq.kx k357 f340) (show (0 : Nat) ∉ [5] by decide)
        have f369 := f351.kx (pd_kq.kx k357 f340) (show (0 : Nat) ∉ [5] by decide)
        have f370 := f352.kx (pd_kq.kx k357 f340) (show (0 : Nat) ∉ [5] by decide)
        have f371 : pd_Str h356 a289 cs := ⟨_, _, f361, f362, gf301, gc302, gl303⟩
        have f372 := f354.kx (pd_kq.kx k357 f340) (show (15 : Nat) ∉ [5] by decide) (show (16 : Nat) ∉ [5] by decide) (show (17 : Nat) ∉ [5] by decide) (show (3 : Nat) ∉ [5] by decide) (show (4 : Nat) ∉ [5] by decide)
        refine lv_aload_n hx hb d_p1m19_83 rfl (lv_at hl 2 rfl) ?_
        refine lv_dup hx hb d_p1m19_84 rfl ?_
        refine pd_get X w f358 rfl 5 (by decide) mT_372 rfl rfl d_p1m19_85 ?_
        refine lv_iload hx hb d_p1m19_88 (lv_at hl 0 rfl) ?_
        refine lv_sipush (v := nI 10000) hx hb d_p1m19_90 (by decide) ?_
        refine lv_icmp_lt (tgt := 100) hx hb d_p1m19_93 (by decide) (fun q373 => ?_) (fun q373 => ?_)
        · -- taken: 100
          refine lv_iload hx hb d_p1m19_100 (lv_at hl 0 rfl) ?_
          refine lv_i2l hx hb d_p1m19_102 rfl ?_
          refine lv_ladd hx hb d_p1m19_103 ?_
          refine pd_put (ty := .long) X w f358 hz_x rfl 5 (by decide) mT_372 rfl rfl (by decide +kernel) rfl rfl (Nat.le_of_ble_eq_true rfl) d_p1m19_104 (fun H locs w => ?_)
          have w : pd_w G s H locs (pd_up h356 x (5, .inr (0, [.ref lb, .ref cl, .ref me, .ref ru, .ref bk, .long (sp + (((gr_jg n R k M u U cs v).1).toInt64)), .int (nI (an + 1)), .int (nI (gn + 1)), .int (nI sn), .int (nI (dn + (gr_jg n R k M u U cs v).2))]))) := w
          obtain ⟨h374, u377⟩ : ∃ z, z = pd_up h356 x (5, .inr (0, [.ref lb, .ref cl, .ref me, .ref ru, .ref bk, .long (sp + (((gr_jg n R k M u U cs v).1).toInt64)), .int (nI (an + 1)), .int (nI (gn + 1)), .int (nI sn), .int (nI (dn + (gr_jg n R k M u U cs v).2))])) := ⟨_, rfl⟩
          rw [← u377] at w
          have k375 : pd_kq x h356 h374 := by rw [u377]; exact pd_up_kq
          have f376 : h374 x = some (5, .inr (0, [.ref lb, .ref cl, .ref me, .ref ru, .ref bk, .long (sp + (((gr_jg n R k M u U cs v).1).toInt64)), .int (nI (an + 1)), .int (nI (gn + 1)), .int (nI sn), .int (nI (dn + (gr_jg n R k M u U cs v).2))])) := by rw [u377]; exact pd_up_s _ _ _
          have f378 := k375 _ _ (pd_ne f360 f358 (by simp)) f360
          have f379 := k375 _ _ (pd_ne f361 f358 (by simp)) f361
          have f380 := k375 _ _ (pd_ne f362 f358 (by simp)) f362
          have f381 := f363.kx (pd_kq.kx k375 f358) (show (0 : Nat) ∉ [5] by decide)
          have f382 := f364.kx (pd_kq.kx k375 f358) (show (1 : Nat) ∉ [5] by decide) (show (2 : Nat) ∉ [5] by decide)
          have f383 := f365.kx (pd_kq.kx k375 f358) (show (6 : Nat) ∉ [5] by decide) (show (10 : Nat) ∉ [5] by decide) (show (0 : Nat) ∉ [5] by decide)
          have f384 := f366.kx (pd_kq.kx k375 f358) (show (11 : Nat) ∉ [5] by decide) (show (12 : Nat) ∉ [5] by decide) (show (0 : Nat) ∉ [5] by decide)
          have f385 := f367.kx (pd_kq.kx k375 f358) (show (13 : Nat) ∉ [5] by decide) (show (14 : Nat) ∉ [5] by decide) (show (0 : Nat) ∉ [5] by decide)
          have f386 := f368.kx (pd_kq.kx k375 f358) (show (0 : Nat) ∉ [5] by decide)
          have f387 := f369.kx (pd_kq.kx k375 f358) (show (0 : Nat) ∉ [5] by decide)
          have f388 := f370.kx (pd_kq.kx k375 f358) (show (0 : Nat) ∉ [5] by decide)
          have f389 : pd_Str h374 a289 cs := ⟨_, _, f379, f380, gf301, gc302, gl303⟩
          have f390 := f372.kx (pd_kq.kx k375 f358) (show (15 : Nat) ∉ [5] by decide) (show (16 : Nat) ∉ [5] by decide) (show (17 : Nat) ∉ [5] by decide) (show (3 : Nat) ∉ [5] by decide) (show (4 : Nat) ∉ [5] by decide)
          refine lv_iload hx hb d_p1m19_107 (lv_at hl 0 rfl) ?_
          exact pd_iret (v := ((gr_jg n R k M u U cs v).1)) X w ⟨rfl, pd_kx.mono (us := [3, 4, 5, 15, 16, 17]) (pd_kx.tr (pd_kx.tr (pd_kx.tr (pd_kx.tr (pd_kx.mono (us := [5, 3, 4, 15, 16, 17]) (k278) (by simp)) (pd_kx.mono (us := [5, 3, 4, 15, 16, 17]) (k323) (by simp))) (pd_kx.mono (us := [5, 3, 4, 15, 16, 17]) (pd_kq.kx (k339) f325) (by simp))) (pd_kx.mono (us := [5, 3, 4, 15, 16, 17]) (pd_kq.kx (k357) f340) (by simp))) (pd_kx.mono (us := [5, 3, 4, 15, 16, 17]) (pd_kq.kx (k375) f358) (by simp))) (by simp), (by unfold gr_pay gr_gn; rw [if_neg q355, if_pos q373, if_neg q355]; exact ⟨lb, cl, me, ru, bk, f376, hz_x, f382, f383, f384, f385, f390, ht60⟩)⟩ (by decide) (by decide) d_p1m19_109
        · -- not taken: 96
          refine lv_lconst (v := 1) hx hb d_p1m19_96 (by decide) ?_
          refine lv_goto (tgt := 103) hx hb d_p1m19_97 (by decide) ?_
          refine lv_ladd hx hb d_p1m19_103 ?_
          refine pd_put (ty := .long) X w f358 hz_x rfl 5 (by decide) mT_372 rfl rfl (by decide +kernel) rfl rfl (Nat.le_of_ble_eq_true rfl) d_p1m19_104 (fun H locs w => ?_)
          have w : pd_w G s H locs (pd_up h356 x (5, .inr (0, [.ref lb, .ref cl, .ref me, .ref ru, .ref bk, .long (sp + 1), .int (nI (an + 1)), .int (nI (gn + 1)), .int (nI sn), .int (nI (dn + (gr_jg n R k M u U cs v).2))]))) := w
          obtain ⟨h391, u394⟩ : ∃ z, z = pd_up h356 x (5, .inr (0, [.ref lb, .ref cl, .ref me, .ref ru, .ref bk, .long (sp + 1), .int (nI (an + 1)), .int (nI (gn + 1)), .int (nI sn), .int (nI (dn + (gr_jg n R k M u U cs v).2))])) := ⟨_, rfl⟩
          rw [← u394] at w
          have k392 : pd_kq x h356 h391 := by rw [u394]; exact pd_up_kq
          have f393 : h391 x = some (5, .inr (0, [.ref lb, .ref cl, .ref me, .ref ru, .ref bk, .long (sp + 1), .int (nI (an + 1)), .int (nI (gn + 1)), .int (nI sn), .int (nI (dn + (gr_jg n R k M u U cs v).2))])) := by rw [u394]; exact pd_up_s _ _ _
          have f395 := k392 _ _ (pd_ne f360 f358 (by simp)) f360
          have f396 := k392 _ _ (pd_ne f361 f358 (by simp)) f361
          have f397 := k392 _ _ (pd_ne f362 f358 (by simp)) f362
          have f398 := f363.kx (pd_kq.kx k392 f358) (show (0 : Nat) ∉ [5] by decide)
          have f399 := f364.kx (pd_kq.kx k392 f358) (show (1 : Nat) ∉ [5] by decide) (show (2 : Nat) ∉ [5] by decide)
          have f400 := f365.kx (pd_kq.kx k392 f358) (show (6 : Nat) ∉ [5] by decide) (show (10 : Nat) ∉ [5] by decide) (show (0 : Nat) ∉ [5] by decide)
          have f401 := f366.kx (pd_kq.kx k392 f358) (show (11 : Nat) ∉ [5] by decide) (show (12 : Nat) ∉ [5] by decide) (show (0 : Nat) ∉ [5] by decide)
          have f402 := f367.kx (pd_kq.kx k392 f358) (show (13 : Nat) ∉ [5] by decide) (show (14 : Nat) ∉ [5] by decide) (show (0 : Nat) ∉ [5] by decide)
          have f403 := f368.kx (pd_kq.kx k392 f358) (show (0 : Nat) ∉ [5] by decide)
          have f404 := f369.kx (pd_kq.kx k392 f358) (show (0 : Nat) ∉ [5] by decide)
          have f405 := f370.kx (pd_kq.kx k392 f358) (show (0 : Nat) ∉ [5] by decide)
          have f406 : pd_Str h391 a289 cs := ⟨_, _, f396, f397, gf301, gc302, gl303⟩
          have f407 := f372.kx (pd_kq.kx k392 f358) (show (15 : Nat) ∉ [5] by decide) (show (16 : Nat) ∉ [5] by decide) (show (17 : Nat) ∉ [5] by decide) (show (3 : Nat) ∉ [5] by decide) (show (4 : Nat) ∉ [5] by decide)
          refine lv_iload hx hb d_p1m19_107 (lv_at hl 0 rfl) ?_
          exact pd_iret (v := ((gr_jg n R k M u U cs v).1)) X w ⟨rfl, pd_kx.mono (us := [3, 4, 5, 15, 16, 17]) (pd_kx.tr (pd_kx.tr (pd_kx.tr (pd_kx.tr (pd_kx.mono (us := [5, 3, 4, 15, 16, 17]) (k278) (by simp)) (pd_kx.mono (us := [5, 3, 4, 15, 16, 17]) (k323) (by simp))) (pd_kx.mono (us := [5, 3, 4, 15, 16, 17]) (pd_kq.kx (k339) f325) (by simp))) (pd_kx.mono (us := [5, 3, 4, 15, 16, 17]) (pd_kq.kx (k357) f340) (by simp))) (pd_kx.mono (us := [5, 3, 4, 15, 16, 17]) (pd_kq.kx (k392) f358) (by simp))) (by simp), (by unfold gr_pay gr_gn; rw [if_neg q355, if_neg q373, if_neg q355]; exact ⟨lb, cl, me, ru, bk, f393, hz_x, f399, f400, f401, f402, f407, ht60⟩)⟩ (by decide) (by decide) d_p1m19_109
