theorem d_p15m47_0 : decode prog_15_method_47_code 0 = .ok (.iload_n 1, 1) := by decide +kernel
theorem d_p15m47_1 : decode prog_15_method_47_code 1 = .ok (.iconst 0, 1) := by decide +kernel
theorem d_p15m47_2 : decode prog_15_method_47_code 2 = .ok (.aload_n 0, 1) := by decide +kernel
theorem d_p15m47_3 : decode prog_15_method_47_code 3 = .ok (.getfield 38, 3) := by decide +kernel
theorem d_p15m47_6 : decode prog_15_method_47_code 6 = .ok (.iconst 1, 1) := by decide +kernel
theorem d_p15m47_7 : decode prog_15_method_47_code 7 = .ok (.isub, 1) := by decide +kernel
theorem d_p15m47_8 : decode prog_15_method_47_code 8 = .ok (.invokestatic 109, 3) := by decide +kernel
theorem d_p15m47_11 : decode prog_15_method_47_code 11 = .ok (.ifCond .eq 17, 3) := by decide +kernel
theorem d_p15m47_14 : decode prog_15_method_47_code 14 = .ok (.iload_n 2, 1) := by decide +kernel
theorem d_p15m47_15 : decode prog_15_method_47_code 15 = .ok (.iconst 0, 1) := by decide +kernel
theorem d_p15m47_16 : decode prog_15_method_47_code 16 = .ok (.aload_n 0, 1) := by decide +kernel
theorem d_p15m47_17 : decode prog_15_method_47_code 17 = .ok (.getfield 38, 3) := by decide +kernel
theorem d_p15m47_20 : decode prog_15_method_47_code 20 = .ok (.iconst 1, 1) := by decide +kernel
theorem d_p15m47_21 : decode prog_15_method_47_code 21 = .ok (.isub, 1) := by decide +kernel
theorem d_p15m47_22 : decode prog_15_method_47_code 22 = .ok (.invokestatic 109, 3) := by decide +kernel
theorem d_p15m47_25 : decode prog_15_method_47_code 25 = .ok (.ifCond .ne 8, 3) := by decide +kernel
theorem d_p15m47_28 : decode prog_15_method_47_code 28 = .ok (.bipush (-2), 2) := by decide +kernel
theorem d_p15m47_30 : decode prog_15_method_47_code 30 = .ok (.goto 17, 3) := by decide +kernel
theorem d_p15m47_33 : decode prog_15_method_47_code 33 = .ok (.aload_n 0, 1) := by decide +kernel
theorem d_p15m47_34 : decode prog_15_method_47_code 34 = .ok (.iload_n 1, 1) := by decide +kernel
theorem d_p15m47_35 : decode prog_15_method_47_code 35 = .ok (.iload_n 2, 1) := by decide +kernel
theorem d_p15m47_36 : decode prog_15_method_47_code 36 = .ok (.invokevirtual 288, 3) := by decide +kernel
theorem d_p15m47_39 : decode prog_15_method_47_code 39 = .ok (.ifCond .eq 7, 3) := by decide +kernel
theorem d_p15m47_42 : decode prog_15_method_47_code 42 = .ok (.iconst 1, 1) := by decide +kernel
theorem d_p15m47_43 : decode prog_15_method_47_code 43 = .ok (.goto 4, 3) := by decide +kernel
theorem d_p15m47_46 : decode prog_15_method_47_code 46 = .ok (.iconst 0, 1) := by decide +kernel
theorem d_p15m47_47 : decode prog_15_method_47_code 47 = .ok (.ireturn, 1) := by decide +kernel
abbrev y_Mod_below : MethodName := ⟨"PolicyDeskModel", "below", "(II)I"⟩
theorem ok_Mod_below : pd_ok y_Mod_below prog_15_method_47_code 3 (some .int) 2 := ⟨mT_1470, mT_21, by decide, by decide +kernel⟩
abbrev rm_Mod_below : Room := { frames := 3, cells := 0, slots := 0, locals := 69 }
set_option maxHeartbeats 4000000 in
set_option maxRecDepth 100000 in
theorem c_Mod_below (l : Launch) (G : pd_G) (h : pd_H) {y : Nat} {ad : Nat → Nat} {fv : Nat → Nat → Int32} {iv : Nat → Int32} {tl : Int64} {n : Nat} {R : Nat → pd_cr} {c0 d0 : Int32} (hMO : pd_MO G h y ad fv iv tl) (hC : gm_C fv iv n R) (hK : gm_K n R) (hB : gm_B n R) : pd_M l y_Mod_below prog_15_method_47_code 3 (some .int) rm_Mod_below G h [.ref y, .int c0, .int d0] Value.int (fun r h1 => r = gr_below n R c0 d0 ∧ pd_kx [20, 71, 72] h h1 ∧ ∃ fo1 fo2 v43, pd_MO G h1 y ad (pd_fu (pd_fu fv 41 fo1) 42 fo2) (pd_fu iv 43 v43) tl) := by
  refine pd_M.of (by decide) (Nat.le_of_ble_eq_true rfl) ?_
  intro p e s m below meth c X hmn w ls hl
  have hx := X.1
  have hb := X.2.1
  have hl : lv_has ls 3 [(0, .ref y), (1, .int c0), (2, .int d0)] := hl
  have hz_y := hMO.2.1
  have hy0 : h y = some (20, .inr (10, [.ref (ad 0), .ref (ad 1), .ref (ad 2), .int (iv 3), .int (iv 4), .int (iv 5), .ref (ad 6), .ref (ad 7), .ref (ad 8), .ref (ad 9), .ref (ad 10), .ref (ad 11), .int (iv 12), .ref (ad 13), .ref (ad 14), .ref (ad 15), .ref (ad 16), .ref (ad 17), .ref (ad 18), .ref (ad 19), .int (iv 20), .ref (ad 21), .ref (ad 22), .ref (ad 23), .ref (ad 24), .ref (ad 25), .ref (ad 26), .ref (ad 27), .ref (ad 28), .int (iv 29), .ref (ad 30), .ref (ad 31), .int (iv 32), .int (iv 33), .int (iv 34), .int (iv 35), .long tl, .int (iv 37), .int (iv 38), .int (iv 39), .int (iv 40), .ref (ad 41), .ref (ad 42), .int (iv 43)])) := hMO.1
  have ha41 : h (ad 41) = some (71, .inl (.int, 16, .inl (fv 41))) := (hMO.2.2 41 (by decide)).1
  have ha42 : h (ad 42) = some (72, .inl (.int, 32, .inl (fv 42))) := (hMO.2.2 42 (by decide)).1
  obtain ⟨hiv12, hn2, hn14, hCc⟩ := id hC
  refine lv_iload_n hx hb d_p15m47_0 rfl (lv_at hl 1 rfl) ?_
  refine lv_iconst (v := nI 0) hx hb d_p15m47_1 (by decide) ?_
  refine lv_aload_n hx hb d_p15m47_2 rfl (lv_at hl 0 rfl) ?_
  refine pd_get X w hy0 rfl 12 (by decide) mT_1151 rfl rfl d_p15m47_3 ?_
  refine pd_top (v' := .int (nI n)) (congrArg Value.int hiv12) ?_
  refine lv_iconst (v := nI 1) hx hb d_p15m47_6 (by decide) ?_
  refine lv_isub hx hb d_p15m47_7 ?_
  refine pd_cS (As := [.int c0, .int (nI 0), .int (nI n - nI 1)]) (rest := []) X w (c_Mod_inI l G h) ok_Mod_inI mT_1278 mT_1277 ⟨by decide, by decide⟩ rfl hl.1 rfl (Nat.le_of_ble_eq_true rfl) d_p15m47_8 ⟨by decide, by decide⟩ (fun r1 h2 H locs hp3 w => ?_)
  refine W.widen (k := 0) (n := 0) (by decide) (by decide) ?_
  obtain ⟨e4, rfl⟩ := hp3
  refine pd_beq (tgt := 28) hx hb d_p15m47_11 (by decide) (fun q5 => ?_) (fun q5 => ?_)
  · -- taken: 28
    refine lv_bipush (v := -2) hx hb d_p15m47_28 (by decide) ?_
    refine lv_goto (tgt := 47) hx hb d_p15m47_30 (by decide) ?_
    exact pd_iret (v := (-2)) X w ⟨by simp only [gr_below, pd_in_n (k := n) (by omega) (e4.symm.trans q5)], pd_kx.rf, fv 41, fv 42, iv 43, pd_MO.ext hMO (fun j9 hj9 => by by_cases e9 : j9 = 42; subst e9; rfl; by_cases e8 : j9 = 41; subst e8; rfl; simp only [pd_fu, if_neg e9, if_neg e8]) rfl⟩ (by decide) (by decide) d_p15m47_47
  · -- not taken: 14
    obtain ⟨i9, hi9, hc0, hix⟩ := pd_in_y (k := n) (by omega) (e4.symm.trans q5)
    rw [hc0] at hl
    have hl : lv_has ls 3 [(0, .ref y), (1, .int (nI i9)), (2, .int d0)] := hl
    refine lv_iload_n hx hb d_p15m47_14 rfl (lv_at hl 2 rfl) ?_
    refine lv_iconst (v := nI 0) hx hb d_p15m47_15 (by decide) ?_
    refine lv_aload_n hx hb d_p15m47_16 rfl (lv_at hl 0 rfl) ?_
    refine pd_get X w hy0 rfl 12 (by decide) mT_1151 rfl rfl d_p15m47_17 ?_
    refine pd_top (v' := .int (nI n)) (congrArg Value.int hiv12) ?_
    refine lv_iconst (v := nI 1) hx hb d_p15m47_20 (by decide) ?_
    refine lv_isub hx hb d_p15m47_21 ?_
    refine pd_cS (As := [.int d0, .int (nI 0), .int (nI n - nI 1)]) (rest := []) X w (c_Mod_inI l G h) ok_Mod_inI mT_1278 mT_1277 ⟨by decide, by decide⟩ rfl hl.1 rfl (Nat.le_of_ble_eq_true rfl) d_p15m47_22 ⟨by decide, by decide⟩ (fun r6 h7 H locs hp8 w => ?_)
    refine W.widen (k := 0) (n := 0) (by decide) (by decide) ?_
    obtain ⟨e9, rfl⟩ := hp8
    refine pd_bne (tgt := 33) hx hb d_p15m47_25 (by decide) (fun q10 => ?_) (fun q10 => ?_)
    · -- taken: 33
      obtain ⟨j9, hj9, hd0, hjx⟩ := pd_in_y (k := n) (by omega) (e9.symm.trans q10)
      rw [hd0] at hl
      have hl : lv_has ls 3 [(0, .ref y), (1, .int (nI i9)), (2, .int (nI j9))] := hl
      refine lv_aload_n hx hb d_p15m47_33 rfl (lv_at hl 0 rfl) ?_
      refine lv_iload_n hx hb d_p15m47_34 rfl (lv_at hl 1 rfl) ?_
      refine lv_iload_n hx hb d_p15m47_35 rfl (lv_at hl 2 rfl) ?_
      refine pd_cV (a := y) (As := [.int (nI i9), .int (nI j9)]) (rest := []) X w hy0 rfl (c_Mod_isBelow l G h (n := n) (R := R) (ad := ad) (fv := fv) (iv := iv) (tl := tl) hMO hC hK (by omega) (by omega)) ok_Mod_isBelow ⟨mT_1411, sT_40⟩ mT_1409 ⟨by decide, by decide⟩ rfl hl.1 rfl (Nat.le_of_ble_eq_true rfl) d_p15m47_36 ⟨by decide, by decide⟩ (fun r11 h12 H locs hp13 w => ?_)
      refine W.widen (k := 0) (n := 0) (by decide) (by decide) ?_
      obtain ⟨e14, k15, f16, f17, v18, f19⟩ := hp13
      have hy20 : h12 y = some (20, .inr (10, [.ref (ad 0), .ref (ad 1), .ref (ad 2), .int (iv 3), .int (iv 4), .int (iv 5), .ref (ad 6), .ref (ad 7), .ref (ad 8), .ref (ad 9), .ref (ad 10), .ref (ad 11), .int (iv 12), .ref (ad 13), .ref (ad 14), .ref (ad 15), .ref (ad 16), .ref (ad 17), .ref (ad 18), .ref (ad 19), .int (iv 20), .ref (ad 21), .ref (ad 22), .ref (ad 23), .ref (ad 24), .ref (ad 25), .ref (ad 26), .ref (ad 27), .ref (ad 28), .int (iv 29), .ref (ad 30), .ref (ad 31), .int (iv 32), .int (iv 33), .int (iv 34), .int (iv 35), .long tl, .int (iv 37), .int (iv 38), .int (iv 39), .int (iv 40), .ref (ad 41), .ref (ad 42), .int v18])) := f19.1
      have ha21 : h12 (ad 41) = some (71, .inl (.int, 16, .inl (f16))) := (f19.2.2 41 (by decide)).1
      have ha22 : h12 (ad 42) = some (72, .inl (.int, 32, .inl (f17))) := (f19.2.2 42 (by decide)).1
      refine pd_beq (tgt := 46) hx hb d_p15m47_39 (by decide) (fun q23 => ?_) (fun q23 => ?_)
      · -- taken: 46
        refine lv_iconst (v := nI 0) hx hb d_p15m47_46 (by decide) ?_
        exact pd_iret (v := (nI 0)) X w ⟨by simp only [gr_below, hix, hjx]; rw [← gm_bel_eq hK hB hi9 hj9, ← e14, q23]; rfl, k15, f16, f17, v18, pd_MO.ext f19 (fun j9 hj9 => by by_cases e9 : j9 = 42; subst e9; rfl; by_cases e8 : j9 = 41; subst e8; rfl; simp only [pd_fu, if_neg e9, if_neg e8]) rfl⟩ (by decide) (by decide) d_p15m47_47
      · -- not taken: 42
        refine lv_iconst (v := nI 1) hx hb d_p15m47_42 (by decide) ?_
        refine lv_goto (tgt := 47) hx hb d_p15m47_43 (by decide) ?_
        exact pd_iret (v := (nI 1)) X w ⟨by simp only [gr_below, hix, hjx]; rw [← gm_bel_eq hK hB hi9 hj9, ← e14, q23]; rfl, k15, f16, f17, v18, pd_MO.ext f19 (fun j9 hj9 => by by_cases e9 : j9 = 42; subst e9; rfl; by_cases e8 : j9 = 41; subst e8; rfl; simp only [pd_fu, if_neg e9, if_neg e8]) rfl⟩ (by decide) (by decide) d_p15m47_47
    · -- not taken: 28
      refine lv_bipush (v := -2) hx hb d_p15m47_28 (by decide) ?_
      refine lv_goto (tgt := 47) hx hb d_p15m47_30 (by decide) ?_
      exact pd_iret (v := (-2)) X w ⟨by simp only [gr_below, hix, pd_in_n (k := n) (by omega) (e9.symm.trans q10)], pd_kx.rf, fv 41, fv 42, iv 43, pd_MO.ext hMO (fun j9 hj9 => by by_cases e9 : j9 = 42; subst e9; rfl; by_cases e8 : j9 = 41; subst e8; rfl; simp only [pd_fu, if_neg e9, if_neg e8]) rfl⟩ (by decide) (by decide) d_p15m47_47
theorem d_p15m38_0 : decode prog_15_method_38_code 0 = .ok (.iload_n 1, 1) := by decide +kernel
theorem d_p15m38_1 : decode prog_15_method_38_code 1 = .ok (.iconst 3, 1) := by decide +kernel
theorem d_p15m38_2 : decode prog_15_method_38_code 2 = .ok (.if_icmp .le 7, 3) := by decide +kernel
theorem d_p15m38_5 : decode prog_15_method_38_code 5 = .ok (.iconst 1, 1) := by decide +kernel
theorem d_p15m38_6 : decode prog_15_method_38_code 6 = .ok (.goto 4, 3) := by decide +kernel
theorem d_p15m38_9 : decode prog_15_method_38_code 9 = .ok (.iconst 0, 1) := by decide +kernel
theorem d_p15m38_10 : decode prog_15_method_38_code 10 = .ok (.istore_n 2, 1) := by decide +kernel
theorem d_p15m38_11 : decode prog_15_method_38_code 11 = .ok (.iload_n 2, 1) := by decide +kernel
theorem d_p15m38_12 : decode prog_15_method_38_code 12 = .ok (.ifCond .eq 38, 3) := by decide +kernel
theorem d_p15m38_15 : decode prog_15_method_38_code 15 = .ok (.aload_n 0, 1) := by decide +kernel
theorem d_p15m38_16 : decode prog_15_method_38_code 16 = .ok (.iconst 1, 1) := by decide +kernel
theorem d_p15m38_17 : decode prog_15_method_38_code 17 = .ok (.invokevirtual 239, 3) := by decide +kernel
theorem d_p15m38_20 : decode prog_15_method_38_code 20 = .ok (.ifCond .eq 38, 3) := by decide +kernel
theorem d_p15m38_23 : decode prog_15_method_38_code 23 = .ok (.iload_n 1, 1) := by decide +kernel
theorem d_p15m38_24 : decode prog_15_method_38_code 24 = .ok (.iconst 4, 1) := by decide +kernel
theorem d_p15m38_25 : decode prog_15_method_38_code 25 = .ok (.if_icmp .ne 14, 3) := by decide +kernel
theorem d_p15m38_28 : decode prog_15_method_38_code 28 = .ok (.aload_n 0, 1) := by decide +kernel
theorem d_p15m38_29 : decode prog_15_method_38_code 29 = .ok (.iconst 2, 1) := by decide +kernel
theorem d_p15m38_30 : decode prog_15_method_38_code 30 = .ok (.invokevirtual 245, 3) := by decide +kernel
theorem d_p15m38_33 : decode prog_15_method_38_code 33 = .ok (.ifCond .ne 27, 3) := by decide +kernel
theorem d_p15m38_36 : decode prog_15_method_38_code 36 = .ok (.goto 22, 3) := by decide +kernel
theorem d_p15m38_39 : decode prog_15_method_38_code 39 = .ok (.aload_n 0, 1) := by decide +kernel
theorem d_p15m38_40 : decode prog_15_method_38_code 40 = .ok (.iconst 2, 1) := by decide +kernel
theorem d_p15m38_41 : decode prog_15_method_38_code 41 = .ok (.invokevirtual 242, 3) := by decide +kernel
theorem d_p15m38_44 : decode prog_15_method_38_code 44 = .ok (.ifCond .ne 16, 3) := by decide +kernel
theorem d_p15m38_47 : decode prog_15_method_38_code 47 = .ok (.goto 11, 3) := by decide +kernel
theorem d_p15m38_50 : decode prog_15_method_38_code 50 = .ok (.aload_n 0, 1) := by decide +kernel
theorem d_p15m38_51 : decode prog_15_method_38_code 51 = .ok (.iconst 1, 1) := by decide +kernel
theorem d_p15m38_52 : decode prog_15_method_38_code 52 = .ok (.invokevirtual 233, 3) := by decide +kernel
theorem d_p15m38_55 : decode prog_15_method_38_code 55 = .ok (.ifCond .ne 5, 3) := by decide +kernel
theorem d_p15m38_58 : decode prog_15_method_38_code 58 = .ok (.iconst (-1), 1) := by decide +kernel
theorem d_p15m38_59 : decode prog_15_method_38_code 59 = .ok (.ireturn, 1) := by decide +kernel
theorem d_p15m38_60 : decode prog_15_method_38_code 60 = .ok (.aload_n 0, 1) := by decide +kernel
theorem d_p15m38_61 : decode prog_15_method_38_code 61 = .ok (.iload_n 1, 1) := by decide +kernel
theorem d_p15m38_62 : decode prog_15_method_38_code 62 = .ok (.iload_n 2, 1) := by decide +kernel
theorem d_p15m38_63 : decode prog_15_method_38_code 63 = .ok (.invokevirtual 269, 3) := by decide +kernel
theorem d_p15m38_66 : decode prog_15_method_38_code 66 = .ok (.istore_n 3, 1) := by decide +kernel
theorem d_p15m38_67 : decode prog_15_method_38_code 67 = .ok (.aload_n 0, 1) := by decide +kernel
theorem d_p15m38_68 : decode prog_15_method_38_code 68 = .ok (.iload_n 3, 1) := by decide +kernel
theorem d_p15m38_69 : decode prog_15_method_38_code 69 = .ok (.invokevirtual 272, 3) := by decide +kernel
theorem d_p15m38_72 : decode prog_15_method_38_code 72 = .ok (.aload_n 0, 1) := by decide +kernel
theorem d_p15m38_73 : decode prog_15_method_38_code 73 = .ok (.dup, 1) := by decide +kernel
theorem d_p15m38_74 : decode prog_15_method_38_code 74 = .ok (.getfield 275, 3) := by decide +kernel
theorem d_p15m38_77 : decode prog_15_method_38_code 77 = .ok (.iconst 1, 1) := by decide +kernel
theorem d_p15m38_78 : decode prog_15_method_38_code 78 = .ok (.iadd, 1) := by decide +kernel
theorem d_p15m38_79 : decode prog_15_method_38_code 79 = .ok (.putfield 275, 3) := by decide +kernel
theorem d_p15m38_82 : decode prog_15_method_38_code 82 = .ok (.iload_n 3, 1) := by decide +kernel
theorem d_p15m38_83 : decode prog_15_method_38_code 83 = .ok (.ifCond .lt 35, 3) := by decide +kernel
theorem d_p15m38_86 : decode prog_15_method_38_code 86 = .ok (.aload_n 0, 1) := by decide +kernel
theorem d_p15m38_87 : decode prog_15_method_38_code 87 = .ok (.dup, 1) := by decide +kernel
theorem d_p15m38_88 : decode prog_15_method_38_code 88 = .ok (.getfield 278, 3) := by decide +kernel
theorem d_p15m38_91 : decode prog_15_method_38_code 91 = .ok (.iconst 1, 1) := by decide +kernel
theorem d_p15m38_92 : decode prog_15_method_38_code 92 = .ok (.iadd, 1) := by decide +kernel
theorem d_p15m38_93 : decode prog_15_method_38_code 93 = .ok (.putfield 278, 3) := by decide +kernel
theorem d_p15m38_96 : decode prog_15_method_38_code 96 = .ok (.aload_n 0, 1) := by decide +kernel
theorem d_p15m38_97 : decode prog_15_method_38_code 97 = .ok (.dup, 1) := by decide +kernel
theorem d_p15m38_98 : decode prog_15_method_38_code 98 = .ok (.getfield 281, 3) := by decide +kernel
theorem d_p15m38_101 : decode prog_15_method_38_code 101 = .ok (.iload_n 3, 1) := by decide +kernel
theorem d_p15m38_102 : decode prog_15_method_38_code 102 = .ok (.sipush 10000, 3) := by decide +kernel
theorem d_p15m38_105 : decode prog_15_method_38_code 105 = .ok (.if_icmp .lt 7, 3) := by decide +kernel
theorem d_p15m38_108 : decode prog_15_method_38_code 108 = .ok (.lconst 1, 1) := by decide +kernel
theorem d_p15m38_109 : decode prog_15_method_38_code 109 = .ok (.goto 5, 3) := by decide +kernel
theorem d_p15m38_112 : decode prog_15_method_38_code 112 = .ok (.iload_n 3, 1) := by decide +kernel
theorem d_p15m38_113 : decode prog_15_method_38_code 113 = .ok (.i2l, 1) := by decide +kernel
theorem d_p15m38_114 : decode prog_15_method_38_code 114 = .ok (.ladd, 1) := by decide +kernel
theorem d_p15m38_115 : decode prog_15_method_38_code 115 = .ok (.putfield 281, 3) := by decide +kernel
theorem d_p15m38_118 : decode prog_15_method_38_code 118 = .ok (.iload_n 3, 1) := by decide +kernel
theorem d_p15m38_119 : decode prog_15_method_38_code 119 = .ok (.ireturn, 1) := by decide +kernel
abbrev y_Mod_askC : MethodName := ⟨"PolicyDeskModel", "ask", "(I)I"⟩
theorem ok_Mod_askC : pd_ok y_Mod_askC prog_15_method_38_code 4 (some .int) 1 := ⟨mT_1392, mT_21, by decide, by decide +kernel⟩
abbrev rm_Mod_askC : Room := { frames := 5, cells := 0, slots := 0, locals := 109 }
set_option maxHeartbeats 4000000 in
set_option maxRecDepth 100000 in
theorem c_Mod_askC (l : Launch) (G : pd_G) (h : pd_H) {y : Nat} {ad : Nat → Nat} {fv : Nat → Nat → Int32} {iv : Nat → Int32} {tl : Int64} {cs : List Nat} {n : Nat} {R : Nat → pd_cr} {k : Nat} {M : Nat → pd_mr} {u : Nat} {U : Nat → pd_rr} {nw dn : Nat} {sA eA : Nat → Nat} {T : Nat → List Nat} {an gn : Nat} {wt : Nat} (hMO : pd_MO G h y ad fv iv tl) (hL : gm_L fv iv cs) (hC : gm_C fv iv n R) (hM : gm_M fv iv n k M) (hU : gm_U fv iv u U) (hK : gm_K n R) (hB : gm_B n R) (hV : gm_V k u U) (hW : gm_W fv cs nw sA eA) (hiv34 : iv 34 = nI dn) (hA : gm_A fv T) (hiv32 : iv 32 = nI an) (hiv33 : iv 33 = nI gn) (han : an < 1000) (hw1 : tx_sub cs (sA 1) (eA 1) = gr_w cs 1) (hnw : 2 ≤ nw) (hwt : 1 ≤ wt ∧ wt ≤ 3) : pd_M l y_Mod_askC prog_15_method_38_code 4 (some .int) rm_Mod_askC G h [.ref y, .int (nI wt)] Value.int (fun r h1 => (¬ (gm_name cs (sA 1) (eA 1) = eA 1) ∧ r = -1 ∧ pd_kx [20, 60, 61, 71, 72] h h1 ∧ pd_MO G h1 y ad fv (iv) tl) ∨ ((gm_name cs (sA 1) (eA 1) = eA 1) ∧ r = (gr_jc n R M u U cs (wt + 7)).1 ∧ pd_kx [20, 60, 61, 71, 72] h h1 ∧ ∃ a1 a2 fo1 fo2 v35 v43, pd_MO G h1 y ad (pd_fu (pd_fu (pd_fu (pd_fu fv 30 a1) 31 a2) 41 fo1) 42 fo2) (pd_fu (pd_fu (pd_fu (pd_fu (pd_fu iv 32 (nI (an + 1))) 33 (nI (gr_gn gn (gr_jc n R M u U cs (wt + 7)).1))) 34 (nI (dn + (gr_jc n R M u U cs (wt + 7)).2))) 35 v35) 43 v43) (gr_pay tl (gr_jc n R M u U cs (wt + 7)).1) ∧ gm_A (pd_fu (pd_fu (pd_fu (pd_fu fv 30 a1) 31 a2) 41 fo1) 42 fo2) (pd_fu T (an % 12) (gr_atx an cs (gr_jc n R M u U cs (wt + 7)).1)))) := by
  refine pd_M.of (by decide) (Nat.le_of_ble_eq_true rfl) ?_
  intro p e s m below meth c X hmn w ls hl
  have hx := X.1
  have hb := X.2.1
  have hl : lv_has ls 4 [(0, .ref y), (1, .int (nI wt))] := hl
  have hz_y := hMO.2.1
  have hy0 : h y = some (20, .inr (10, [.ref (ad 0), .ref (ad 1), .ref (ad 2), .int (iv 3), .int (iv 4), .int (iv 5), .ref (ad 6), .ref (ad 7), .ref (ad 8), .ref (ad 9), .ref (ad 10), .ref (ad 11), .int (iv 12), .ref (ad 13), .ref (ad 14), .ref (ad 15), .ref (ad 16), .ref (ad 17), .ref (ad 18), .ref (ad 19), .int (iv 20), .ref (ad 21), .ref (ad 22), .ref (ad 23), .ref (ad 24), .ref (ad 25), .ref (ad 26), .ref (ad 27), .ref (ad 28), .int (iv 29), .ref (ad 30), .ref (ad 31), .int (iv 32), .int (iv 33), .int (iv 34), .int (iv 35), .long tl, .int (iv 37), .int (iv 38), .int (iv 39), .int (iv 40), .ref (ad 41), .ref (ad 42), .int (iv 43)])) := hMO.1
  have ha30 : h (ad 30) = some (60, .inl (.int, 1152, .inl (fv 30))) := (hMO.2.2 30 (by decide)).1
  have ha31 : h (ad 31) = some (61, .inl (.int, 12, .inl (fv 31))) := (hMO.2.2 31 (by decide)).1
  have ha41 : h (ad 41) = some (71, .inl (.int, 16, .inl (fv 41))) := (hMO.2.2 41 (by decide)).1
  have ha42 : h (ad 42) = some (72, .inl (.int, 32, .inl (fv 42))) := (hMO.2.2 42 (by decide)).1
  refine lv_iload_n hx hb d_p15m38_0 rfl (lv_at hl 1 rfl) ?_
  refine lv_iconst (v := nI 3) hx hb d_p15m38_1 (by decide) ?_
  refine pd_jle (tgt := 9) hx hb d_p15m38_2 (by decide) (by omega) (by omega) (fun q1 => ?_) (fun q1 => ?_)
  · -- taken: 9
    refine lv_iconst (v := nI 0) hx hb d_p15m38_9 (by decide) ?_
    refine lv_istore_n (lv' := [(2, .int (nI 0)), (0, .ref y), (1, .int (nI wt))]) hx hb d_p15m38_10 rfl hl (by decide) rfl (fun ls hl => ?_)
    refine lv_iload_n hx hb d_p15m38_11 rfl (lv_at hl 0 rfl) ?_
    refine pd_zeq (tgt := 50) hx hb d_p15m38_12 (by decide) (by decide) (fun _ => ?_) (fun q => absurd q (by decide))
    refine lv_aload_n hx hb d_p15m38_50 rfl (lv_at hl 1 rfl) ?_
    refine lv_iconst (v := nI 1) hx hb d_p15m38_51 (by decide) ?_
    refine pd_cV (a := y) (As := [.int (nI 1)]) (rest := []) X w hy0 rfl (c_Mod_isName l G h (cs := cs) (nw := nw) (sA := sA) (eA := eA) (ad := ad) (fv := fv) (iv := iv) (tl := tl) hMO hL hW (by omega)) ok_Mod_isName ⟨mT_1307, sT_17⟩ mT_1305 ⟨by decide, by decide⟩ rfl hl.1 rfl (Nat.le_of_ble_eq_true rfl) d_p15m38_52 ⟨by decide, by decide⟩ (fun r3 h4 H locs hp5 w => ?_)
    refine W.widen (k := 0) (n := 0) (by decide) (by decide) ?_
    obtain ⟨e6, rfl⟩ := hp5
    refine pd_bne (tgt := 60) hx hb d_p15m38_55 (by decide) (fun q7 => ?_) (fun q7 => ?_)
    · -- taken: 60
      have hnm9 := of_decide_eq_true (e6.symm.trans q7)
      refine lv_aload_n hx hb d_p15m38_60 rfl (lv_at hl 1 rfl) ?_
      refine lv_iload_n hx hb d_p15m38_61 rfl (lv_at hl 2 rfl) ?_
      refine lv_iload_n hx hb d_p15m38_62 rfl (lv_at hl 0 rfl) ?_
      refine pd_cV (a := y) (As := [.int (nI wt), .int (nI 0)]) (rest := []) X w hy0 rfl (c_Mod_answerC l G h (cs := cs) (n := n) (R := R) (k := k) (M := M) (u := u) (U := U) (nw := nw) (dn := dn) (sA := sA) (eA := eA) (wt := wt) (ad := ad) (fv := fv) (iv := iv) (tl := tl) hMO hL hC hM hU hK hB hV hW hiv34 hw1 (by omega) (by omega)) ok_Mod_answerC ⟨mT_1395, sT_36⟩ mT_1393 ⟨by decide, by decide⟩ rfl hl.1 rfl (Nat.le_of_ble_eq_true rfl) d_p15m38_63 ⟨by decide, by decide⟩ (fun r8 h9 H locs hp10 w => ?_)
      refine W.widen (k := 0) (n := 0) (by decide) (by decide) ?_
      obtain ⟨e11, k12, f13, f14, v15, f16⟩ := hp10
      have f17 := k12 _ _ ha30 (show (60 : Nat) ∉ [20, 71, 72] by decide)
      have f18 := k12 _ _ ha31 (show (61 : Nat) ∉ [20, 71, 72] by decide)
      subst e11
      have hy19 : h9 y = some (20, .inr (10, [.ref (ad 0), .ref (ad 1), .ref (ad 2), .int (iv 3), .int (iv 4), .int (iv 5), .ref (ad 6), .ref (ad 7), .ref (ad 8), .ref (ad 9), .ref (ad 10), .ref (ad 11), .int (iv 12), .ref (ad 13), .ref (ad 14), .ref (ad 15), .ref (ad 16), .ref (ad 17), .ref (ad 18), .ref (ad 19), .int (iv 20), .ref (ad 21), .ref (ad 22), .ref (ad 23), .ref (ad 24), .ref (ad 25), .ref (ad 26), .ref (ad 27), .ref (ad 28), .int (iv 29), .ref (ad 30), .ref (ad 31), .int (iv 32), .int (iv 33), .int (nI (dn + (gr_jc n R M u U cs (wt + 7)).2)), .int (iv 35), .long tl, .int (iv 37), .int (iv 38), .int (iv 39), .int (iv 40), .ref (ad 41), .ref (ad 42), .int v15])) := f16.1
      have ha20 : h9 (ad 30) = some (60, .inl (.int, 1152, .inl (fv 30))) := (f16.2.2 30 (by decide)).1
      have ha21 : h9 (ad 31) = some (61, .inl (.int, 12, .inl (fv 31))) := (f16.2.2 31 (by decide)).1
      have ha22 : h9 (ad 41) = some (71, .inl (.int, 16, .inl (f13))) := (f16.2.2 41 (by decide)).1
      have ha23 : h9 (ad 42) = some (72, .inl (.int, 32, .inl (f14))) := (f16.2.2 42 (by decide)).1
      refine lv_istore_n (lv' := [(3, .int ((gr_jc n R M u U cs (wt + 7)).1)), (2, .int (nI 0)), (0, .ref y), (1, .int (nI wt))]) hx hb d_p15m38_66 rfl hl (by decide) rfl (fun ls hl => ?_)
      have haok : gr_aok (gr_jc n R M u U cs (wt + 7)).1 := gr_jc_ok (fun i9 hi9 => (hV i9 hi9).2.2)
      refine lv_aload_n hx hb d_p15m38_67 rfl (lv_at hl 2 rfl) ?_
      refine lv_iload_n hx hb d_p15m38_68 rfl (lv_at hl 0 rfl) ?_
      refine pd_cVv (a := y) (As := [.int ((gr_jc n R M u U cs (wt + 7)).1)]) (rest := []) X w hy19 rfl (c_Mod_write l G h9 (cs := cs) (an := an) (T := T) (ans := (gr_jc n R M u U cs (wt + 7)).1) (ad := ad) (fv := pd_fu (pd_fu fv 41 f13) 42 f14) (iv := pd_fu (pd_fu iv 34 (nI (dn + (gr_jc n R M u U cs (wt + 7)).2))) 43 v15) (tl := tl) f16 hL hA hiv32 (by omega) haok) ok_Mod_write ⟨mT_1431, sT_45⟩ mT_1429 ⟨by decide, by decide⟩ rfl hl.1 rfl (Nat.le_of_ble_eq_true rfl) d_p15m38_69 ⟨by decide, by decide⟩ (fun h25 H locs hp26 w => ?_)
      refine W.widen (k := 0) (n := 0) (by decide) (by decide) ?_
      obtain ⟨k27, f28, f29, v30, f31, f32⟩ := hp26
      have f33 := k27 _ _ ha22 (show (71 : Nat) ∉ [20, 60, 61] by decide)
      have f34 := k27 _ _ ha23 (show (72 : Nat) ∉ [20, 60, 61] by decide)
      have mo35 : pd_MO G h25 y ad (pd_fu (pd_fu (pd_fu (pd_fu fv 30 f28) 31 f29) 41 f13) 42 f14) (pd_fu (pd_fu (pd_fu iv 34 (nI (dn + (gr_jc n R M u U cs (wt + 7)).2))) 35 v30) 43 v15) tl := pd_MO.ext f31 (fun j9 hj9 => by by_cases e930 : j9 = 30; subst e930; rfl; by_cases e931 : j9 = 31; subst e931; rfl; by_cases e941 : j9 = 41; subst e941; rfl; by_cases e942 : j9 = 42; subst e942; rfl; simp only [pd_fu, if_neg e930, if_neg e931, if_neg e941, if_neg e942]) rfl
      have hy36 : h25 y = some (20, .inr (10, [.ref (ad 0), .ref (ad 1), .ref (ad 2), .int (iv 3), .int (iv 4), .int (iv 5), .ref (ad 6), .ref (ad 7), .ref (ad 8), .ref (ad 9), .ref (ad 10), .ref (ad 11), .int (iv 12), .ref (ad 13), .ref (ad 14), .ref (ad 15), .ref (ad 16), .ref (ad 17), .ref (ad 18), .ref (ad 19), .int (iv 20), .ref (ad 21), .ref (ad 22), .ref (ad 23), .ref (ad 24), .ref (ad 25), .ref (ad 26), .ref (ad 27), .ref (ad 28), .int (iv 29), .ref (ad 30), .ref (ad 31), .int (iv 32), .int (iv 33), .int (nI (dn + (gr_jc n R M u U cs (wt + 7)).2)), .int v30, .long tl, .int (iv 37), .int (iv 38), .int (iv 39), .int (iv 40), .ref (ad 41), .ref (ad 42), .int v15])) := mo35.1
      have ha37 : h25 (ad 30) = some (60, .inl (.int, 1152, .inl (f28))) := (mo35.2.2 30 (by decide)).1
      have ha38 : h25 (ad 31) = some (61, .inl (.int, 12, .inl (f29))) := (mo35.2.2 31 (by decide)).1
      have ha39 : h25 (ad 41) = some (71, .inl (.int, 16, .inl (f13))) := (mo35.2.2 41 (by decide)).1
      have ha40 : h25 (ad 42) = some (72, .inl (.int, 32, .inl (f14))) := (mo35.2.2 42 (by decide)).1
      refine lv_aload_n hx hb d_p15m38_72 rfl (lv_at hl 2 rfl) ?_
      refine lv_dup hx hb d_p15m38_73 rfl ?_
      refine pd_get X w hy36 rfl 32 (by decide) mT_1171 rfl rfl d_p15m38_74 ?_
      refine pd_top (v' := .int (nI an)) (congrArg Value.int hiv32) ?_
      refine lv_iconst (v := nI 1) hx hb d_p15m38_77 (by decide) ?_
      refine pd_iadd hx hb d_p15m38_78 ?_
      refine pd_put (ty := .int) X w hy36 hz_y rfl 32 (by decide) mT_1171 rfl rfl (by decide +kernel) rfl rfl (Nat.le_of_ble_eq_true rfl) d_p15m38_79 (fun H locs w => ?_)
      have w : pd_w G s H locs (pd_up h25 y (20, .inr (10, [.ref (ad 0), .ref (ad 1), .ref (ad 2), .int (iv 3), .int (iv 4), .int (iv 5), .ref (ad 6), .ref (ad 7), .ref (ad 8), .ref (ad 9), .ref (ad 10), .ref (ad 11), .int (iv 12), .ref (ad 13), .ref (ad 14), .ref (ad 15), .ref (ad 16), .ref (ad 17), .ref (ad 18), .ref (ad 19), .int (iv 20), .ref (ad 21), .ref (ad 22), .ref (ad 23), .ref (ad 24), .ref (ad 25), .ref (ad 26), .ref (ad 27), .ref (ad 28), .int (iv 29), .ref (ad 30), .ref (ad 31), .int (nI (an + 1)), .int (iv 33), .int (nI (dn + (gr_jc n R M u U cs (wt + 7)).2)), .int v30, .long tl, .int (iv 37), .int (iv 38), .int (iv 39), .int (iv 40), .ref (ad 41), .ref (ad 42), .int v15]))) := w
      obtain ⟨h41, u44⟩ : ∃ z, z = pd_up h25 y (20, .inr (10, [.ref (ad 0), .ref (ad 1), .ref (ad 2), .int (iv 3), .int (iv 4), .int (iv 5), .ref (ad 6), .ref (ad 7), .ref (ad 8), .ref (ad 9), .ref (ad 10), .ref (ad 11), .int (iv 12), .ref (ad 13), .ref (ad 14), .ref (ad 15), .ref (ad 16), .ref (ad 17), .ref (ad 18), .ref (ad 19), .int (iv 20), .ref (ad 21), .ref (ad 22), .ref (ad 23), .ref (ad 24), .ref (ad 25), .ref (ad 26), .ref (ad 27), .ref (ad 28), .int (iv 29), .ref (ad 30), .ref (ad 31), .int (nI (an + 1)), .int (iv 33), .int (nI (dn + (gr_jc n R M u U cs (wt + 7)).2)), .int v30, .long tl, .int (iv 37), .int (iv 38), .int (iv 39), .int (iv 40), .ref (ad 41), .ref (ad 42), .int v15])) := ⟨_, rfl⟩
      rw [← u44] at w
      have k42 : pd_kq y h25 h41 := by rw [u44]; exact pd_up_kq
      have f43 : h41 y = some (20, .inr (10, [.ref (ad 0), .ref (ad 1), .ref (ad 2), .int (iv 3), .int (iv 4), .int (iv 5), .ref (ad 6), .ref (ad 7), .ref (ad 8), .ref (ad 9), .ref (ad 10), .ref (ad 11), .int (iv 12), .ref (ad 13), .ref (ad 14), .ref (ad 15), .ref (ad 16), .ref (ad 17), .ref (ad 18), .ref (ad 19), .int (iv 20), .ref (ad 21), .ref (ad 22), .ref (ad 23), .ref (ad 24), .ref (ad 25), .ref (ad 26), .ref (ad 27), .ref (ad 28), .int (iv 29), .ref (ad 30), .ref (ad 31), .int (nI (an + 1)), .int (iv 33), .int (nI (dn + (gr_jc n R M u U cs (wt + 7)).2)), .int v30, .long tl, .int (iv 37), .int (iv 38), .int (iv 39), .int (iv 40), .ref (ad 41), .ref (ad 42), .int v15])) := by rw [u44]; exact pd_up_s _ _ _
      have f45 := k42 _ _ (pd_ne ha39 hy36 (by simp)) ha39
      have f46 := k42 _ _ (pd_ne ha40 hy36 (by simp)) ha40
      have f47 := k42 _ _ (pd_ne ha37 hy36 (by simp)) ha37
      have f48 := k42 _ _ (pd_ne ha38 hy36 (by simp)) ha38
      refine lv_iload_n hx hb d_p15m38_82 rfl (lv_at hl 0 rfl) ?_
      refine lv_if_lt (tgt := 118) hx hb d_p15m38_83 (by decide) (fun q49 => ?_) (fun q49 => ?_)
      · -- taken: 118
        refine lv_iload_n hx hb d_p15m38_118 rfl (lv_at hl 0 rfl) ?_
        have mo50 : pd_MO G h41 y ad (pd_fu (pd_fu (pd_fu (pd_fu fv 30 f28) 31 f29) 41 f13) 42 f14) (pd_fu (pd_fu (pd_fu (pd_fu iv 34 (nI (dn + (gr_jc n R M u U cs (wt + 7)).2))) 35 v30) 43 v15) 32 (nI (an + 1))) tl := pd_MO.of (ts := [20]) mo35 (pd_kq.kx (k42) hy36) f43 (fun j hj => Or.inr ⟨fun z => by first | (simp at z; done) | (simp at z; omega), rfl⟩)
        have hgn : gr_gn gn (gr_jc n R M u U cs (wt + 7)).1 = gn := by unfold gr_gn; rw [if_pos q49]
        have hpy : gr_pay tl (gr_jc n R M u U cs (wt + 7)).1 = tl := by unfold gr_pay; rw [if_pos q49]
        exact pd_iret (v := ((gr_jc n R M u U cs (wt + 7)).1)) X w (Or.inr ⟨hnm9, rfl, pd_kx.mono (us := [20, 60, 61, 71, 72]) (pd_kx.tr (pd_kx.tr (pd_kx.mono (us := [20, 71, 72, 60, 61]) (k12) (by simp)) (pd_kx.mono (us := [20, 71, 72, 60, 61]) (k27) (by simp))) (pd_kx.mono (us := [20, 71, 72, 60, 61]) (pd_kq.kx (k42) hy36) (by simp))) (by simp), f28, f29, f13, f14, v30, v15, (by rw [hgn, hpy]; exact pd_MO.ext mo50 (fun j9 hj9 => by by_cases e30 : j9 = 30; subst e30; rfl; by_cases e31 : j9 = 31; subst e31; rfl; by_cases e41 : j9 = 41; subst e41; rfl; by_cases e42 : j9 = 42; subst e42; rfl; simp only [pd_fu, if_neg e30, if_neg e31, if_neg e41, if_neg e42]) (by show pd_mv ad (pd_fu (pd_fu (pd_fu (pd_fu (pd_fu iv 32 _) 33 (nI gn)) 34 _) 35 _) 43 _) _ = _; exact congrArg (fun z => pd_mv ad (pd_fu (pd_fu (pd_fu (pd_fu (pd_fu iv 32 _) 33 z) 34 _) 35 _) 43 _) _) hiv33.symm)), f32⟩) (by decide) (by decide) d_p15m38_119
      · -- not taken: 86
        refine lv_aload_n hx hb d_p15m38_86 rfl (lv_at hl 2 rfl) ?_
        refine lv_dup hx hb d_p15m38_87 rfl ?_
        refine pd_get X w f43 rfl 33 (by decide) mT_1172 rfl rfl d_p15m38_88 ?_
        refine pd_top (v' := .int (nI gn)) (congrArg Value.int hiv33) ?_
        refine lv_iconst (v := nI 1) hx hb d_p15m38_91 (by decide) ?_
        refine pd_iadd hx hb d_p15m38_92 ?_
        refine pd_put (ty := .int) X w f43 hz_y rfl 33 (by decide) mT_1172 rfl rfl (by decide +kernel) rfl rfl (Nat.le_of_ble_eq_true rfl) d_p15m38_93 (fun H locs w => ?_)
        have w : pd_w G s H locs (pd_up h41 y (20, .inr (10, [.ref (ad 0), .ref (ad 1), .ref (ad 2), .int (iv 3), .int (iv 4), .int (iv 5), .ref (ad 6), .ref (ad 7), .ref (ad 8), .ref (ad 9), .ref (ad 10), .ref (ad 11), .int (iv 12), .ref (ad 13), .ref (ad 14), .ref (ad 15), .ref (ad 16), .ref (ad 17), .ref (ad 18), .ref (ad 19), .int (iv 20), .ref (ad 21), .ref (ad 22), .ref (ad 23), .ref (ad 24), .ref (ad 25), .ref (ad 26), .ref (ad 27), .ref (ad 28), .int (iv 29), .ref (ad 30), .ref (ad 31), .int (nI (an + 1)), .int (nI (gn + 1)), .int (nI (dn + (gr_jc n R M u U cs (wt + 7)).2)), .int v30, .long tl, .int (iv 37), .int (iv 38), .int (iv 39), .int (iv 40), .ref (ad 41), .ref (ad 42), .int v15]))) := w
        obtain ⟨h51, u54⟩ : ∃ z, z = pd_up h41 y (20, .inr (10, [.ref (ad 0), .ref (ad 1), .ref (ad 2), .int (iv 3), .int (iv 4), .int (iv 5), .ref (ad 6), .ref (ad 7), .ref (ad 8), .ref (ad 9), .ref (ad 10), .ref (ad 11), .int (iv 12), .ref (ad 13), .ref (ad 14), .ref (ad 15), .ref (ad 16), .ref (ad 17), .ref (ad 18), .ref (ad 19), .int (iv 20), .ref (ad 21), .ref (ad 22), .ref (ad 23), .ref (ad 24), .ref (ad 25), .ref (ad 26), .ref (ad 27), .ref (ad 28), .int (iv 29), .ref (ad 30), .ref (ad 31), .int (nI (an + 1)), .int (nI (gn + 1)), .int (nI (dn + (gr_jc n R M u U cs (wt + 7)).2)), .int v30, .long tl, .int (iv 37), .int (iv 38), .int (iv 39), .int (iv 40), .ref (ad 41), .ref (ad 42), .int v15])) := ⟨_, rfl⟩
        rw [← u54] at w
        have k52 : pd_kq y h41 h51 := by rw [u54]; exact pd_up_kq
        have f53 : h51 y = some (20, .inr (10, [.ref (ad 0), .ref (ad 1), .ref (ad 2), .int (iv 3), .int (iv 4), .int (iv 5), .ref (ad 6), .ref (ad 7), .ref (ad 8), .ref (ad 9), .ref (ad 10), .ref (ad 11), .int (iv 12), .ref (ad 13), .ref (ad 14), .ref (ad 15), .ref (ad 16), .ref (ad 17), .ref (ad 18), .ref (ad 19), .int (iv 20), .ref (ad 21), .ref (ad 22), .ref (ad 23), .ref (ad 24), .ref (ad 25), .ref (ad 26), .ref (ad 27), .ref (ad 28), .int (iv 29), .ref (ad 30), .ref (ad 31), .int (nI (an + 1)), .int (nI (gn + 1)), .int (nI (dn + (gr_jc n R M u U cs (wt + 7)).2)), .int v30, .long tl, .int (iv 37), .int (iv 38), .int (iv 39), .int (iv 40), .ref (ad 41), .ref (ad 42), .int v15])) := by rw [u54]; exact pd_up_s _ _ _
        have f55 := k52 _ _ (pd_ne f45 f43 (by simp)) f45
        have f56 := k52 _ _ (pd_ne f46 f43 (by simp)) f46
        have f57 := k52 _ _ (pd_ne f47 f43 (by simp)) f47
        have f58 := k52 _ _ (pd_ne f48 f43 (by simp)) f48
        refine lv_aload_n hx hb d_p15m38_96 rfl (lv_at hl 2 rfl) ?_
        refine lv_dup hx hb d_p15m38_97 rfl ?_
        refine pd_get X w f53 rfl 36 (by decide) mT_1175 rfl rfl d_p15m38_98 ?_
        refine lv_iload_n hx hb d_p15m38_101 rfl (lv_at hl 0 rfl) ?_
        refine lv_sipush (v := nI 10000) hx hb d_p15m38_102 (by decide) ?_
        refine lv_icmp_lt (tgt := 112) hx hb d_p15m38_105 (by decide) (fun q59 => ?_) (fun q59 => ?_)
        · -- taken: 112
          refine lv_iload_n hx hb d_p15m38_112 rfl (lv_at hl 0 rfl) ?_
          refine lv_i2l hx hb d_p15m38_113 rfl ?_
          refine lv_ladd hx hb d_p15m38_114 ?_
          refine pd_put (ty := .long) X w f53 hz_y rfl 36 (by decide) mT_1175 rfl rfl (by decide +kernel) rfl rfl (Nat.le_of_ble_eq_true rfl) d_p15m38_115 (fun H locs w => ?_)
          have w : pd_w G s H locs (pd_up h51 y (20, .inr (10, [.ref (ad 0), .ref (ad 1), .ref (ad 2), .int (iv 3), .int (iv 4), .int (iv 5), .ref (ad 6), .ref (ad 7), .ref (ad 8), .ref (ad 9), .ref (ad 10), .ref (ad 11), .int (iv 12), .ref (ad 13), .ref (ad 14), .ref (ad 15), .ref (ad 16), .ref (ad 17), .ref (ad 18), .ref (ad 19), .int (iv 20), .ref (ad 21), .ref (ad 22), .ref (ad 23), .ref (ad 24), .ref (ad 25), .ref (ad 26), .ref (ad 27), .ref (ad 28), .int (iv 29), .ref (ad 30), .ref (ad 31), .int (nI (an + 1)), .int (nI (gn + 1)), .int (nI (dn + (gr_jc n R M u U cs (wt + 7)).2)), .int v30, .long (tl + (((gr_jc n R M u U cs (wt + 7)).1).toInt64)), .int (iv 37), .int (iv 38), .int (iv 39), .int (iv 40), .ref (ad 41), .ref (ad 42), .int v15]))) := w
          obtain ⟨h60, u63⟩ : ∃ z, z = pd_up h51 y (20, .inr (10, [.ref (ad 0), .ref (ad 1), .ref (ad 2), .int (iv 3), .int (iv 4), .int (iv 5), .ref (ad 6), .ref (ad 7), .ref (ad 8), .ref (ad 9), .ref (ad 10), .ref (ad 11), .int (iv 12), .ref (ad 13), .ref (ad 14), .ref (ad 15), .ref (ad 16), .ref (ad 17), .ref (ad 18), .ref (ad 19), .int (iv 20), .ref (ad 21), .ref (ad 22), .ref (ad 23), .ref (ad 24), .ref (ad 25), .ref (ad 26), .ref (ad 27), .ref (ad 28), .int (iv 29), .ref (ad 30), .ref (ad 31), .int (nI (an + 1)), .int (nI (gn + 1)), .int (nI (dn + (gr_jc n R M u U cs (wt + 7)).2)), .int v30, .long (tl + (((gr_jc n R M u U cs (wt + 7)).1).toInt64)), .int (iv 37), .int (iv 38), .int (iv 39), .int (iv 40), .ref (ad 41), .ref (ad 42), .int v15])) := ⟨_, rfl⟩
          rw [← u63] at w
          have k61 : pd_kq y h51 h60 := by rw [u63]; exact pd_up_kq
          have f62 : h60 y = some (20, .inr (10, [.ref (ad 0), .ref (ad 1), .ref (ad 2), .int (iv 3), .int (iv 4), .int (iv 5), .ref (ad 6), .ref (ad 7), .ref (ad 8), .ref (ad 9), .ref (ad 10), .ref (ad 11), .int (iv 12), .ref (ad 13), .ref (ad 14), .ref (ad 15), .ref (ad 16), .ref (ad 17), .ref (ad 18), .ref (ad 19), .int (iv 20), .ref (ad 21), .ref (ad 22), .ref (ad 23), .ref (ad 24), .ref (ad 25), .ref (ad 26), .ref (ad 27), .ref (ad 28), .int (iv 29), .ref (ad 30), .ref (ad 31), .int (nI (an + 1)), .int (nI (gn + 1)), .int (nI (dn + (gr_jc n R M u U cs (wt + 7)).2)), .int v30, .long (tl + (((gr_jc n R M u U cs (wt + 7)).1).toInt64)), .int (iv 37), .int (iv 38), .int (iv 39), .int (iv 40), .ref (ad 41), .ref (ad 42), .int v15])) := by rw [u63]; exact pd_up_s _ _ _
          have f64 := k61 _ _ (pd_ne f55 f53 (by simp)) f55
          have f65 := k61 _ _ (pd_ne f56 f53 (by simp)) f56
          have f66 := k61 _ _ (pd_ne f57 f53 (by simp)) f57
          have f67 := k61 _ _ (pd_ne f58 f53 (by simp)) f58
          refine lv_iload_n hx hb d_p15m38_118 rfl (lv_at hl 0 rfl) ?_
          have mo68 : pd_MO G h60 y ad (pd_fu (pd_fu (pd_fu (pd_fu fv 30 f28) 31 f29) 41 f13) 42 f14) (pd_fu (pd_fu (pd_fu (pd_fu (pd_fu iv 34 (nI (dn + (gr_jc n R M u U cs (wt + 7)).2))) 35 v30) 43 v15) 32 (nI (an + 1))) 33 (nI (gn + 1))) (tl + (((gr_jc n R M u U cs (wt + 7)).1).toInt64)) := pd_MO.of (ts := [20]) mo35 (pd_kx.tr (pd_kx.tr (pd_kq.kx (k42) hy36) (pd_kq.kx (k52) f43)) (pd_kq.kx (k61) f53)) f62 (fun j hj => Or.inr ⟨fun z => by first | (simp at z; done) | (simp at z; omega), rfl⟩)
          have hgn : gr_gn gn (gr_jc n R M u U cs (wt + 7)).1 = gn + 1 := by unfold gr_gn; rw [if_neg q49]
          have hpy : gr_pay tl (gr_jc n R M u U cs (wt + 7)).1 = tl + (((gr_jc n R M u U cs (wt + 7)).1).toInt64) := by unfold gr_pay; rw [if_neg q49, if_pos q59]
          exact pd_iret (v := ((gr_jc n R M u U cs (wt + 7)).1)) X w (Or.inr ⟨hnm9, rfl, pd_kx.mono (us := [20, 60, 61, 71, 72]) (pd_kx.tr (pd_kx.tr (pd_kx.tr (pd_kx.tr (pd_kx.mono (us := [20, 71, 72, 60, 61]) (k12) (by simp)) (pd_kx.mono (us := [20, 71, 72, 60, 61]) (k27) (by simp))) (pd_kx.mono (us := [20, 71, 72, 60, 61]) (pd_kq.kx (k42) hy36) (by simp))) (pd_kx.mono (us := [20, 71, 72, 60, 61]) (pd_kq.kx (k52) f43) (by simp))) (pd_kx.mono (us := [20, 71, 72, 60, 61]) (pd_kq.kx (k61) f53) (by simp))) (by simp), f28, f29, f13, f14, v30, v15, (by rw [hgn, hpy]; exact pd_MO.ext mo68 (fun j9 hj9 => by by_cases e30 : j9 = 30; subst e30; rfl; by_cases e31 : j9 = 31; subst e31; rfl; by_cases e41 : j9 = 41; subst e41; rfl; by_cases e42 : j9 = 42; subst e42; rfl; simp only [pd_fu, if_neg e30, if_neg e31, if_neg e41, if_neg e42]) (rfl)), f32⟩) (by decide) (by decide) d_p15m38_119
        · -- not taken: 108
          refine lv_lconst (v := 1) hx hb d_p15m38_108 (by decide) ?_
          refine lv_goto (tgt := 114) hx hb d_p15m38_109 (by decide) ?_
          refine lv_ladd hx hb d_p15m38_114 ?_
          refine pd_put (ty := .long) X w f53 hz_y rfl 36 (by decide) mT_1175 rfl rfl (by decide +kernel) rfl rfl (Nat.le_of_ble_eq_true rfl) d_p15m38_115 (fun H locs w => ?_)
          have w : pd_w G s H locs (pd_up h51 y (20, .inr (10, [.ref (ad 0), .ref (ad 1), .ref (ad 2), .int (iv 3), .int (iv 4), .int (iv 5), .ref (ad 6), .ref (ad 7), .ref (ad 8), .ref (ad 9), .ref (ad 10), .ref (ad 11), .int (iv 12), .ref (ad 13), .ref (ad 14), .ref (ad 15), .ref (ad 16), .ref (ad 17), .ref (ad 18), .ref (ad 19), .int (iv 20), .ref (ad 21), .ref (ad 22), .ref (ad 23), .ref (ad 24), .ref (ad 25), .ref (ad 26), .ref (ad 27), .ref (ad 28), .int (iv 29), .ref (ad 30), .ref (ad 31), .int (nI (an + 1)), .int (nI (gn + 1)), .int (nI (dn + (gr_jc n R M u U cs (wt + 7)).2)), .int v30, .long (tl + 1), .int (iv 37), .int (iv 38), .int (iv 39), .int (iv 40), .ref (ad 41), .ref (ad 42), .int v15]))) := w
          obtain ⟨h69, u72⟩ : ∃ z, z = pd_up h51 y (20, .inr (10, [.ref (ad 0), .ref (ad 1), .ref (ad 2), .int (iv 3), .int (iv 4), .int (iv 5), .ref (ad 6), .ref (ad 7), .ref (ad 8), .ref (ad 9), .ref (ad 10), .ref (ad 11), .int (iv 12), .ref (ad 13), .ref (ad 14), .ref (ad 15), .ref (ad 16), .ref (ad 17), .ref (ad 18), .ref (ad 19), .int (iv 20), .ref (ad 21), .ref (ad 22), .ref (ad 23), .ref (ad 24), .ref (ad 25), .ref (ad 26), .ref (ad 27), .ref (ad 28), .int (iv 29), .ref (ad 30), .ref (ad 31), .int (nI (an + 1)), .int (nI (gn + 1)), .int (nI (dn + (gr_jc n R M u U cs (wt + 7)).2)), .int v30, .long (tl + 1), .int (iv 37), .int (iv 38), .int (iv 39), .int (iv 40), .ref (ad 41), .ref (ad 42), .int v15])) := ⟨_, rfl⟩
          rw [← u72] at w
          have k70 : pd_kq y h51 h69 := by rw [u72]; exact pd_up_kq
          have f71 : h69 y = some (20, .inr (10, [.ref (ad 0), .ref (ad 1), .ref (ad 2), .int (iv 3), .int (iv 4), .int (iv 5), .ref (ad 6), .ref (ad 7), .ref (ad 8), .ref (ad 9), .ref (ad 10), .ref (ad 11), .int (iv 12), .ref (ad 13), .ref (ad 14), .ref (ad 15), .ref (ad 16), .ref (ad 17), .ref (ad 18), .ref (ad 19), .int (iv 20), .ref (ad 21), .ref (ad 22), .ref (ad 23), .ref (ad 24), .ref (ad 25), .ref (ad 26), .ref (ad 27), .ref (ad 28), .int (iv 29), .ref (ad 30), .ref (ad 31), .int (nI (an + 1)), .int (nI (gn + 1)), .int (nI (dn + (gr_jc n R M u U cs (wt + 7)).2)), .int v30, .long (tl + 1), .int (iv 37), .int (iv 38), .int (iv 39), .int (iv 40), .ref (ad 41), .ref (ad 42), .int v15])) := by rw [u72]; exact pd_up_s _ _ _
          have f73 := k70 _ _ (pd_ne f55 f53 (by simp)) f55
          have f74 := k70 _ _ (pd_ne f56 f53 (by simp)) f56
          have f75 := k70 _ _ (pd_ne f57 f53 (by simp)) f57
          have f76 := k70 _ _ (pd_ne f58 f53 (by simp)) f58
          refine lv_iload_n hx hb d_p15m38_118 rfl (lv_at hl 0 rfl) ?_
          have mo77 : pd_MO G h69 y ad (pd_fu (pd_fu (pd_fu (pd_fu fv 30 f28) 31 f29) 41 f13) 42 f14) (pd_fu (pd_fu (pd_fu (pd_fu (pd_fu iv 34 (nI (dn + (gr_jc n R M u U cs (wt + 7)).2))) 35 v30) 43 v15) 32 (nI (an + 1))) 33 (nI (gn + 1))) (tl + 1) := pd_MO.of (ts := [20]) mo35 (pd_kx.tr (pd_kx.tr (pd_kq.kx (k42) hy36) (pd_kq.kx (k52) f43)) (pd_kq.kx (k70) f53)) f71 (fun j hj => Or.inr ⟨fun z => by first | (simp at z; done) | (simp at z; omega), rfl⟩)
          have hgn : gr_gn gn (gr_jc n R M u U cs (wt + 7)).1 = gn + 1 := by unfold gr_gn; rw [if_neg q49]
          have hpy : gr_pay tl (gr_jc n R M u U cs (wt + 7)).1 = tl + 1 := by unfold gr_pay; rw [if_neg q49, if_neg q59]
          exact pd_iret (v := ((gr_jc n R M u U cs (wt + 7)).1)) X w (Or.inr ⟨hnm9, rfl, pd_kx.mono (us := [20, 60, 61, 71, 72]) (pd_kx.tr (pd_kx.tr (pd_kx.tr (pd_kx.tr (pd_kx.mono (us := [20, 71, 72, 60, 61]) (k12) (by simp)) (pd_kx.mono (us := [20, 71, 72, 60, 61]) (k27) (by simp))) (pd_kx.mono (us := [20, 71, 72, 60, 61]) (pd_kq.kx (k42) hy36) (by simp))) (pd_kx.mono (us := [20, 71, 72, 60, 61]) (pd_kq.kx (k52) f43) (by simp))) (pd_kx.mono (us := [20, 71, 72, 60, 61]) (pd_kq.kx (k70) f53) (by simp))) (by simp), f28, f29, f13, f14, v30, v15, (by rw [hgn, hpy]; exact pd_MO.ext mo77 (fun j9 hj9 => by by_cases e30 : j9 = 30; subst e30; rfl; by_cases e31 : j9 = 31; subst e31; rfl; by_cases e41 : j9 = 41; subst e41; rfl; by_cases e42 : j9 = 42; subst e42; rfl; simp only [pd_fu, if_neg e30, if_neg e31, if_neg e41, if_neg e42]) (rfl)), f32⟩) (by decide) (by decide) d_p15m38_119
    · -- not taken: 58
      refine lv_iconst (v := -1) hx hb d_p15m38_58 (by decide) ?_
      exact pd_iret (v := (-1)) X w (Or.inl ⟨of_decide_eq_false (e6.symm.trans q7), rfl, pd_kx.rf, hMO⟩) (by decide) (by decide) d_p15m38_59
  · -- not taken: 5
    exfalso
    omega
