theorem d_p15m32_0 : decode prog_15_method_32_code 0 = .ok (.aload_n 0, 1) := by decide +kernel
theorem d_p15m32_1 : decode prog_15_method_32_code 1 = .ok (.iconst 1, 1) := by decide +kernel
theorem d_p15m32_2 : decode prog_15_method_32_code 2 = .ok (.invokevirtual 253, 3) := by decide +kernel
theorem d_p15m32_5 : decode prog_15_method_32_code 5 = .ok (.ifCond .eq 11, 3) := by decide +kernel
theorem d_p15m32_8 : decode prog_15_method_32_code 8 = .ok (.aload_n 0, 1) := by decide +kernel
theorem d_p15m32_9 : decode prog_15_method_32_code 9 = .ok (.iconst 2, 1) := by decide +kernel
theorem d_p15m32_10 : decode prog_15_method_32_code 10 = .ok (.invokevirtual 239, 3) := by decide +kernel
theorem d_p15m32_13 : decode prog_15_method_32_code 13 = .ok (.ifCond .ne 5, 3) := by decide +kernel
theorem d_p15m32_16 : decode prog_15_method_32_code 16 = .ok (.iconst (-1), 1) := by decide +kernel
theorem d_p15m32_17 : decode prog_15_method_32_code 17 = .ok (.ireturn, 1) := by decide +kernel
theorem d_p15m32_18 : decode prog_15_method_32_code 18 = .ok (.aload_n 0, 1) := by decide +kernel
theorem d_p15m32_19 : decode prog_15_method_32_code 19 = .ok (.aload_n 0, 1) := by decide +kernel
theorem d_p15m32_20 : decode prog_15_method_32_code 20 = .ok (.getfield 13, 3) := by decide +kernel
theorem d_p15m32_23 : decode prog_15_method_32_code 23 = .ok (.iconst 2, 1) := by decide +kernel
theorem d_p15m32_24 : decode prog_15_method_32_code 24 = .ok (.iaload, 1) := by decide +kernel
theorem d_p15m32_25 : decode prog_15_method_32_code 25 = .ok (.aload_n 0, 1) := by decide +kernel
theorem d_p15m32_26 : decode prog_15_method_32_code 26 = .ok (.getfield 130, 3) := by decide +kernel
theorem d_p15m32_29 : decode prog_15_method_32_code 29 = .ok (.invokevirtual 145, 3) := by decide +kernel
theorem d_p15m32_32 : decode prog_15_method_32_code 32 = .ok (.istore_n 1, 1) := by decide +kernel
theorem d_p15m32_33 : decode prog_15_method_32_code 33 = .ok (.iload_n 1, 1) := by decide +kernel
theorem d_p15m32_34 : decode prog_15_method_32_code 34 = .ok (.ifCond .ge 7, 3) := by decide +kernel
theorem d_p15m32_37 : decode prog_15_method_32_code 37 = .ok (.iconst (-1), 1) := by decide +kernel
theorem d_p15m32_38 : decode prog_15_method_32_code 38 = .ok (.goto 16, 3) := by decide +kernel
theorem d_p15m32_41 : decode prog_15_method_32_code 41 = .ok (.aload_n 0, 1) := by decide +kernel
theorem d_p15m32_42 : decode prog_15_method_32_code 42 = .ok (.iload_n 1, 1) := by decide +kernel
theorem d_p15m32_43 : decode prog_15_method_32_code 43 = .ok (.aload_n 0, 1) := by decide +kernel
theorem d_p15m32_44 : decode prog_15_method_32_code 44 = .ok (.getfield 16, 3) := by decide +kernel
theorem d_p15m32_47 : decode prog_15_method_32_code 47 = .ok (.iconst 2, 1) := by decide +kernel
theorem d_p15m32_48 : decode prog_15_method_32_code 48 = .ok (.iaload, 1) := by decide +kernel
theorem d_p15m32_49 : decode prog_15_method_32_code 49 = .ok (.iconst (-1), 1) := by decide +kernel
theorem d_p15m32_50 : decode prog_15_method_32_code 50 = .ok (.iconst 1, 1) := by decide +kernel
theorem d_p15m32_51 : decode prog_15_method_32_code 51 = .ok (.invokevirtual 165, 3) := by decide +kernel
theorem d_p15m32_54 : decode prog_15_method_32_code 54 = .ok (.istore_n 2, 1) := by decide +kernel
theorem d_p15m32_55 : decode prog_15_method_32_code 55 = .ok (.iload_n 2, 1) := by decide +kernel
theorem d_p15m32_56 : decode prog_15_method_32_code 56 = .ok (.ifCond .ge 6, 3) := by decide +kernel
theorem d_p15m32_59 : decode prog_15_method_32_code 59 = .ok (.bipush (-2), 2) := by decide +kernel
theorem d_p15m32_61 : decode prog_15_method_32_code 61 = .ok (.ireturn, 1) := by decide +kernel
theorem d_p15m32_62 : decode prog_15_method_32_code 62 = .ok (.aload_n 0, 1) := by decide +kernel
theorem d_p15m32_63 : decode prog_15_method_32_code 63 = .ok (.getfield 45, 3) := by decide +kernel
theorem d_p15m32_66 : decode prog_15_method_32_code 66 = .ok (.iload_n 2, 1) := by decide +kernel
theorem d_p15m32_67 : decode prog_15_method_32_code 67 = .ok (.iaload, 1) := by decide +kernel
theorem d_p15m32_68 : decode prog_15_method_32_code 68 = .ok (.iconst 1, 1) := by decide +kernel
theorem d_p15m32_69 : decode prog_15_method_32_code 69 = .ok (.iand, 1) := by decide +kernel
theorem d_p15m32_70 : decode prog_15_method_32_code 70 = .ok (.ifCond .ne 8, 3) := by decide +kernel
theorem d_p15m32_73 : decode prog_15_method_32_code 73 = .ok (.bipush (-4), 2) := by decide +kernel
theorem d_p15m32_75 : decode prog_15_method_32_code 75 = .ok (.goto 9, 3) := by decide +kernel
theorem d_p15m32_78 : decode prog_15_method_32_code 78 = .ok (.aload_n 0, 1) := by decide +kernel
theorem d_p15m32_79 : decode prog_15_method_32_code 79 = .ok (.iconst 3, 1) := by decide +kernel
theorem d_p15m32_80 : decode prog_15_method_32_code 80 = .ok (.iload_n 2, 1) := by decide +kernel
theorem d_p15m32_81 : decode prog_15_method_32_code 81 = .ok (.invokevirtual 203, 3) := by decide +kernel
theorem d_p15m32_84 : decode prog_15_method_32_code 84 = .ok (.ireturn, 1) := by decide +kernel
abbrev y_Mod_lead : MethodName := ⟨"PolicyDeskModel", "lead", "()I"⟩
theorem ok_Mod_lead : pd_ok y_Mod_lead prog_15_method_32_code 3 (some .int) 0 := ⟨mT_1387, mT_21, by decide, by decide +kernel⟩
abbrev rm_Mod_lead : Room := { frames := 6, cells := 0, slots := 0, locals := 135 }
set_option maxHeartbeats 4000000 in
set_option maxRecDepth 100000 in
theorem c_Mod_lead (l : Launch) (G : pd_G) (h : pd_H) {y : Nat} {ad : Nat → Nat} {fv : Nat → Nat → Int32} {iv : Nat → Int32} {tl : Int64} {cs : List Nat} {n : Nat} {R : Nat → pd_cr} {k : Nat} {M : Nat → pd_mr} {u : Nat} {U : Nat → pd_rr} {nw : Nat} {sA eA : Nat → Nat} (hMO : pd_MO G h y ad fv iv tl) (hL : gm_L fv iv cs) (hC : gm_C fv iv n R) (hM : gm_M fv iv n k M) (hU : gm_U fv iv u U) (hW : gm_W fv cs nw sA eA) (hnw : 3 ≤ nw) (hbda : gm_mem cs (sA 2) (eA 2) = true → tx_sub cs (sA 2) (gm_name cs (sA 2) (eA 2)) = gr_bd (gr_w cs 2) ∧ tx_sub cs (gm_name cs (sA 2) (eA 2) + 1) (eA 2) = gr_ad (gr_w cs 2)) (hpt : ∀ t, gm_pat cs (sA 1) (eA 1) = some t → (t.1 = 3 - gr_rch (gr_w cs 1) ∧ t.2.2.1 = gr_bh (gr_w cs 1)) ∧ tx_sub cs (sA 1) t.2.1 = gr_pn (gr_w cs 1) ∧ (gr_bh (gr_w cs 1) = 2 → tx_sub cs t.2.2.2 (eA 1) = gr_ad (gr_w cs 1)) ∧ sA 1 ≤ t.2.1 ∧ t.2.1 ≤ eA 1 ∧ t.2.1 - sA 1 ≤ 24 ∧ t.2.2.2 ≤ eA 1) : pd_M l y_Mod_lead prog_15_method_32_code 3 (some .int) rm_Mod_lead G h [.ref y] Value.int (fun r h1 => (¬ ((gm_pat cs (sA 1) (eA 1)).isSome = true ∧ gm_mem cs (sA 2) (eA 2) = true) ∧ r = -1 ∧ pd_kx [20, 51, 52, 53, 54, 55, 56, 57, 58] h h1 ∧ ∃ fv2 iv2, pd_MO G h1 y ad fv2 iv2 tl ∧ gm_fr [21, 22, 23, 24, 25, 26, 27, 28] [29, 37, 38, 39, 40] fv iv fv2 iv2 ∧ gm_U fv2 iv2 u U) ∨ (((gm_pat cs (sA 1) (eA 1)).isSome = true ∧ gm_mem cs (sA 2) (eA 2) = true) ∧ r = (gr_dr n R k M u U cs 7).1 ∧ pd_kx [20, 51, 52, 53, 54, 55, 56, 57, 58] h h1 ∧ ∃ fv2 iv2, pd_MO G h1 y ad fv2 iv2 tl ∧ gm_fr [21, 22, 23, 24, 25, 26, 27, 28] [29, 37, 38, 39, 40] fv iv fv2 iv2 ∧ gm_U fv2 iv2 (gr_dr n R k M u U cs 7).2.1 (gr_dr n R k M u U cs 7).2.2)) := by
  refine pd_M.of (by decide) (Nat.le_of_ble_eq_true rfl) ?_
  intro p e s m below meth c X hmn w ls hl
  have hx := X.1
  have hb := X.2.1
  have hl : lv_has ls 3 [(0, .ref y)] := hl
  have hz_y := hMO.2.1
  have hy0 : h y = some (20, .inr (10, [.ref (ad 0), .ref (ad 1), .ref (ad 2), .int (iv 3), .int (iv 4), .int (iv 5), .ref (ad 6), .ref (ad 7), .ref (ad 8), .ref (ad 9), .ref (ad 10), .ref (ad 11), .int (iv 12), .ref (ad 13), .ref (ad 14), .ref (ad 15), .ref (ad 16), .ref (ad 17), .ref (ad 18), .ref (ad 19), .int (iv 20), .ref (ad 21), .ref (ad 22), .ref (ad 23), .ref (ad 24), .ref (ad 25), .ref (ad 26), .ref (ad 27), .ref (ad 28), .int (iv 29), .ref (ad 30), .ref (ad 31), .int (iv 32), .int (iv 33), .int (iv 34), .int (iv 35), .long tl, .int (iv 37), .int (iv 38), .int (iv 39), .int (iv 40), .ref (ad 41), .ref (ad 42), .int (iv 43)])) := hMO.1
  have ha1 : h (ad 1) = some (31, .inl (.int, 40, .inl (fv 1))) := (hMO.2.2 1 (by decide)).1
  have ha2 : h (ad 2) = some (32, .inl (.int, 40, .inl (fv 2))) := (hMO.2.2 2 (by decide)).1
  have ha14 : h (ad 14) = some (44, .inl (.int, 24, .inl (fv 14))) := (hMO.2.2 14 (by decide)).1
  obtain ⟨hiv3, hln, hl60, hlc⟩ := id hL
  obtain ⟨hiv12, hn2, hn14, hCc⟩ := id hC
  obtain ⟨hiv20, hk24, hMm⟩ := id hM
  have hw31 := hW.1
  refine lv_aload_n hx hb d_p15m32_0 rfl (lv_at hl 0 rfl) ?_
  refine lv_iconst (v := nI 1) hx hb d_p15m32_1 (by decide) ?_
  refine pd_cV (a := y) (As := [.int (nI 1)]) (rest := []) X w hy0 rfl (c_Mod_isPattern l G h (cs := cs) (nw := nw) (sA := sA) (eA := eA) (ad := ad) (fv := fv) (iv := iv) (tl := tl) hMO hL hW (by omega)) ok_Mod_isPattern ⟨mT_1375, sT_32⟩ mT_1373 ⟨by decide, by decide⟩ rfl hl.1 rfl (Nat.le_of_ble_eq_true rfl) d_p15m32_2 ⟨by decide, by decide⟩ (fun r1 h2 H locs hp3 w => ?_)
  refine W.widen (k := 0) (n := 0) (by decide) (by decide) ?_
  obtain ⟨e4, k5, v6, v7, v8, v9, f10, q11⟩ := hp3
  have f12 := k5 _ _ ha1 (show (31 : Nat) ∉ [20] by decide)
  have f13 := k5 _ _ ha2 (show (32 : Nat) ∉ [20] by decide)
  have f14 := k5 _ _ ha14 (show (44 : Nat) ∉ [20] by decide)
  have hy15 : h2 y = some (20, .inr (10, [.ref (ad 0), .ref (ad 1), .ref (ad 2), .int (iv 3), .int (iv 4), .int (iv 5), .ref (ad 6), .ref (ad 7), .ref (ad 8), .ref (ad 9), .ref (ad 10), .ref (ad 11), .int (iv 12), .ref (ad 13), .ref (ad 14), .ref (ad 15), .ref (ad 16), .ref (ad 17), .ref (ad 18), .ref (ad 19), .int (iv 20), .ref (ad 21), .ref (ad 22), .ref (ad 23), .ref (ad 24), .ref (ad 25), .ref (ad 26), .ref (ad 27), .ref (ad 28), .int (iv 29), .ref (ad 30), .ref (ad 31), .int (iv 32), .int (iv 33), .int (iv 34), .int (iv 35), .long tl, .int v6, .int v7, .int v8, .int v9, .ref (ad 41), .ref (ad 42), .int (iv 43)])) := f10.1
  have ha16 : h2 (ad 1) = some (31, .inl (.int, 40, .inl (fv 1))) := (f10.2.2 1 (by decide)).1
  have ha17 : h2 (ad 2) = some (32, .inl (.int, 40, .inl (fv 2))) := (f10.2.2 2 (by decide)).1
  have ha18 : h2 (ad 14) = some (44, .inl (.int, 24, .inl (fv 14))) := (f10.2.2 14 (by decide)).1
  refine pd_beq (tgt := 16) hx hb d_p15m32_5 (by decide) (fun q19 => ?_) (fun q19 => ?_)
  · -- taken: 16
    refine lv_iconst (v := -1) hx hb d_p15m32_16 (by decide) ?_
    exact pd_iret (v := (-1)) X w (Or.inl ⟨(fun z => by have z1 := z.1; rw [← e4, q19] at z1; cases z1), rfl, pd_kx.mono (us := [20, 51, 52, 53, 54, 55, 56, 57, 58]) (k5) (by simp), _, _, f10, ⟨fun _ _ => rfl, fun j hj => by simp at hj; simp [pd_fu, hj]⟩, hU⟩) (by decide) (by decide) d_p15m32_17
  · -- not taken: 8
    have hps : (gm_pat cs (sA 1) (eA 1)).isSome = true := e4.symm.trans q19
    refine lv_aload_n hx hb d_p15m32_8 rfl (lv_at hl 0 rfl) ?_
    refine lv_iconst (v := nI 2) hx hb d_p15m32_9 (by decide) ?_
    refine pd_cV (a := y) (As := [.int (nI 2)]) (rest := []) X w hy15 rfl (c_Mod_isMember l G h2 (cs := cs) (nw := nw) (sA := sA) (eA := eA) (ad := ad) (fv := fv) (iv := pd_fu (pd_fu (pd_fu (pd_fu iv 37 v6) 38 v7) 39 v8) 40 v9) (tl := tl) f10 hL hW (by omega)) ok_Mod_isMember ⟨mT_1340, sT_24⟩ mT_1338 ⟨by decide, by decide⟩ rfl hl.1 rfl (Nat.le_of_ble_eq_true rfl) d_p15m32_10 ⟨by decide, by decide⟩ (fun r20 h21 H locs hp22 w => ?_)
    refine W.widen (k := 0) (n := 0) (by decide) (by decide) ?_
    obtain ⟨e23, k24, f25⟩ := hp22
    have f26 := k24 _ _ ha16 (show (31 : Nat) ∉ [20] by decide)
    have f27 := k24 _ _ ha17 (show (32 : Nat) ∉ [20] by decide)
    have f28 := k24 _ _ ha18 (show (44 : Nat) ∉ [20] by decide)
    have mo29 : pd_MO G h21 y ad fv (pd_fu (pd_fu (pd_fu (pd_fu iv 37 v6) 38 (nI (gm_name cs (sA 2) (eA 2)))) 39 v8) 40 (nI (gm_name cs (sA 2) (eA 2) + 1))) tl := pd_MO.ext f25 (fun j9 hj9 => by rfl) rfl
    have hy30 : h21 y = some (20, .inr (10, [.ref (ad 0), .ref (ad 1), .ref (ad 2), .int (iv 3), .int (iv 4), .int (iv 5), .ref (ad 6), .ref (ad 7), .ref (ad 8), .ref (ad 9), .ref (ad 10), .ref (ad 11), .int (iv 12), .ref (ad 13), .ref (ad 14), .ref (ad 15), .ref (ad 16), .ref (ad 17), .ref (ad 18), .ref (ad 19), .int (iv 20), .ref (ad 21), .ref (ad 22), .ref (ad 23), .ref (ad 24), .ref (ad 25), .ref (ad 26), .ref (ad 27), .ref (ad 28), .int (iv 29), .ref (ad 30), .ref (ad 31), .int (iv 32), .int (iv 33), .int (iv 34), .int (iv 35), .long tl, .int v6, .int (nI (gm_name cs (sA 2) (eA 2))), .int v8, .int (nI (gm_name cs (sA 2) (eA 2) + 1)), .ref (ad 41), .ref (ad 42), .int (iv 43)])) := mo29.1
    have ha31 : h21 (ad 1) = some (31, .inl (.int, 40, .inl (fv 1))) := (mo29.2.2 1 (by decide)).1
    have ha32 : h21 (ad 2) = some (32, .inl (.int, 40, .inl (fv 2))) := (mo29.2.2 2 (by decide)).1
    have ha33 : h21 (ad 14) = some (44, .inl (.int, 24, .inl (fv 14))) := (mo29.2.2 14 (by decide)).1
    refine pd_bne (tgt := 18) hx hb d_p15m32_13 (by decide) (fun q34 => ?_) (fun q34 => ?_)
    · -- taken: 18
      have hmem := e23.symm.trans q34
      have hmb := of_decide_eq_true hmem
      have hwl2 := (hW.2 2 (by omega)).2.2
      refine lv_aload_n hx hb d_p15m32_18 rfl (lv_at hl 0 rfl) ?_
      refine lv_aload_n hx hb d_p15m32_19 rfl (lv_at hl 0 rfl) ?_
      refine pd_get X w hy30 rfl 1 (by decide) mT_1140 rfl rfl d_p15m32_20 ?_
      refine lv_iconst (v := nI 2) hx hb d_p15m32_23 (by decide) ?_
      refine pd_iald X w ha31 (by omega) (by omega) d_p15m32_24 ?_
      refine pd_top (v' := .int (nI (sA 2))) (congrArg Value.int (hW.2 2 (by omega)).1) ?_
      refine lv_aload_n hx hb d_p15m32_25 rfl (lv_at hl 0 rfl) ?_
      refine pd_get X w hy30 rfl 38 (by decide) mT_1177 rfl rfl d_p15m32_26 ?_
      refine pd_cV (a := y) (As := [.int (nI (sA 2)), .int (nI (gm_name cs (sA 2) (eA 2)))]) (rest := []) X w hy30 rfl (c_Mod_find l G h21 (ad := ad) (fv := fv) (iv := pd_fu (pd_fu (pd_fu (pd_fu iv 37 v6) 38 (nI (gm_name cs (sA 2) (eA 2)))) 39 v8) 40 (nI (gm_name cs (sA 2) (eA 2) + 1))) (tl := tl) mo29 hL hC (by omega) (by omega)) ok_Mod_find ⟨mT_1326, sT_21⟩ mT_1324 ⟨by decide, by decide⟩ rfl hl.1 rfl (Nat.le_of_ble_eq_true rfl) d_p15m32_29 ⟨by decide, by decide⟩ (fun r35 h36 H locs hp37 w => ?_)
      refine W.widen (k := 0) (n := 0) (by decide) (by decide) ?_
      obtain ⟨e38, rfl⟩ := hp37
      refine lv_istore_n (lv' := [(1, .int (pd_m r35)), (0, .ref y)]) hx hb d_p15m32_32 rfl hl (by decide) rfl (fun ls hl => ?_)
      refine lv_iload_n hx hb d_p15m32_33 rfl (lv_at hl 0 rfl) ?_
      refine pd_mge (tgt := 41) hx hb d_p15m32_34 (by decide) (fun x hx => by have z := gr_fi_lt (e38.symm.trans hx); omega) (fun q39 => ?_) (fun j40 q39 => ?_)
      · -- none: 37
        rw [q39] at e38
        rw [q39] at hl
        have hl : lv_has ls 3 [(1, .int (-1)), (0, .ref y)] := hl
        refine lv_iconst (v := -1) hx hb d_p15m32_37 (by decide) ?_
        refine lv_goto (tgt := 54) hx hb d_p15m32_38 (by decide) ?_
        refine lv_istore_n (lv' := [(2, .int (-1)), (1, .int (-1)), (0, .ref y)]) hx hb d_p15m32_54 rfl hl (by decide) rfl (fun ls hl => ?_)
        refine lv_iload_n hx hb d_p15m32_55 rfl (lv_at hl 0 rfl) ?_
        refine lv_if_ge (tgt := 62) hx hb d_p15m32_56 (by decide) (fun q => absurd q (by decide)) (fun _ => ?_)
        refine lv_bipush (v := -2) hx hb d_p15m32_59 (by decide) ?_
        have hg : gr_dr n R k M u U cs 7 = (-2, u, U) := by unfold gr_dr; rw [if_pos rfl]; simp only [gr_si, ← (hbda hmem).1, ← (hbda hmem).2, e38.symm]
        exact pd_iret (v := (-2)) X w (Or.inr ⟨⟨hps, hmem⟩, by rw [hg], pd_kx.mono (us := [20, 51, 52, 53, 54, 55, 56, 57, 58]) (pd_kx.tr (k5) (k24)) (by simp), _, _, mo29, ⟨fun _ _ => rfl, fun j hj => by simp at hj; simp [pd_fu, hj]⟩, (by rw [hg]; exact hU)⟩) (by decide) (by decide) d_p15m32_61
      · -- some: 41
        rw [q39] at e38
        rw [q39] at hl
        have hl : lv_has ls 3 [(1, .int (nI j40)), (0, .ref y)] := hl
        have j40lt := gr_fi_lt e38.symm
        refine lv_aload_n hx hb d_p15m32_41 rfl (lv_at hl 1 rfl) ?_
        refine lv_iload_n hx hb d_p15m32_42 rfl (lv_at hl 0 rfl) ?_
        refine lv_aload_n hx hb d_p15m32_43 rfl (lv_at hl 1 rfl) ?_
        refine pd_get X w hy30 rfl 2 (by decide) mT_1141 rfl rfl d_p15m32_44 ?_
        refine lv_iconst (v := nI 2) hx hb d_p15m32_47 (by decide) ?_
        refine pd_iald X w ha32 (by omega) (by omega) d_p15m32_48 ?_
        refine pd_top (v' := .int (nI (eA 2))) (congrArg Value.int (hW.2 2 (by omega)).2.1) ?_
        refine lv_iconst (v := -1) hx hb d_p15m32_49 (by decide) ?_
        refine lv_iconst (v := nI 1) hx hb d_p15m32_50 (by decide) ?_
        refine pd_cV (a := y) (As := [.int (nI j40), .int (nI (eA 2)), .int (-1), .int (nI 1)]) (rest := []) X w hy30 rfl (c_Mod_ownN l G h21 (cs := cs) (n := n) (k := k) (M := M) (tf := gm_name cs (sA 2) (eA 2) + 1) (ad := ad) (fv := fv) (iv := pd_fu (pd_fu (pd_fu (pd_fu iv 37 v6) 38 (nI (gm_name cs (sA 2) (eA 2)))) 39 v8) 40 (nI (gm_name cs (sA 2) (eA 2) + 1))) (tl := tl) mo29 hL hM (by omega) (by omega) rfl (by omega) (by omega)) ok_Mod_ownN ⟨mT_1360, sT_29⟩ mT_1358 ⟨by decide, by decide⟩ rfl hl.1 rfl (Nat.le_of_ble_eq_true rfl) d_p15m32_51 ⟨by decide, by decide⟩ (fun r42 h43 H locs hp44 w => ?_)
        refine W.widen (k := 0) (n := 0) (by decide) (by decide) ?_
        obtain ⟨e45, rfl⟩ := hp44
        refine lv_istore_n (lv' := [(2, .int (pd_m r42)), (1, .int (nI j40)), (0, .ref y)]) hx hb d_p15m32_54 rfl hl (by decide) rfl (fun ls hl => ?_)
        refine lv_iload_n hx hb d_p15m32_55 rfl (lv_at hl 0 rfl) ?_
        refine pd_mge (tgt := 62) hx hb d_p15m32_56 (by decide) (fun x hx => by have z := gr_fi_lt (e45.symm.trans hx); omega) (fun q46 => ?_) (fun j47 q46 => ?_)
        · -- none: 59
          rw [q46] at e45
          rw [q46] at hl
          have hl : lv_has ls 3 [(2, .int (-1)), (1, .int (nI j40)), (0, .ref y)] := hl
          refine lv_bipush (v := -2) hx hb d_p15m32_59 (by decide) ?_
          have hg : gr_dr n R k M u U cs 7 = (-2, u, U) := by unfold gr_dr; rw [if_pos rfl]; simp only [gr_si, ← (hbda hmem).1, ← (hbda hmem).2, e38.symm, e45.symm]
          exact pd_iret (v := (-2)) X w (Or.inr ⟨⟨hps, hmem⟩, by rw [hg], pd_kx.mono (us := [20, 51, 52, 53, 54, 55, 56, 57, 58]) (pd_kx.tr (k5) (k24)) (by simp), _, _, mo29, ⟨fun _ _ => rfl, fun j hj => by simp at hj; simp [pd_fu, hj]⟩, (by rw [hg]; exact hU)⟩) (by decide) (by decide) d_p15m32_61
        · -- some: 62
          rw [q46] at e45
          rw [q46] at hl
          have hl : lv_has ls 3 [(2, .int (nI j47)), (1, .int (nI j40)), (0, .ref y)] := hl
          have j47lt := gr_fi_lt e45.symm
          refine lv_aload_n hx hb d_p15m32_62 rfl (lv_at hl 2 rfl) ?_
          refine pd_get X w hy30 rfl 14 (by decide) mT_1153 rfl rfl d_p15m32_63 ?_
          refine lv_iload_n hx hb d_p15m32_66 rfl (lv_at hl 0 rfl) ?_
          refine pd_iald X w ha33 (by omega) (by omega) d_p15m32_67 ?_
          refine pd_top (v' := .int (nI ((M j47).2.2.2))) (congrArg Value.int (hMm j47 (by omega)).2.2.1) ?_
          refine lv_iconst (v := nI 1) hx hb d_p15m32_68 (by decide) ?_
          refine lv_iand hx hb d_p15m32_69 ?_
          refine lv_if_ne (tgt := 78) hx hb d_p15m32_70 (by decide) (fun q48 => ?_) (fun q48 => ?_)
          · -- taken: 78
            refine lv_aload_n hx hb d_p15m32_78 rfl (lv_at hl 2 rfl) ?_
            refine lv_iconst (v := nI 3) hx hb d_p15m32_79 (by decide) ?_
            refine lv_iload_n hx hb d_p15m32_80 rfl (lv_at hl 0 rfl) ?_
            refine pd_cV (a := y) (As := [.int (nI 3), .int (nI j47)]) (rest := []) X w hy30 rfl (c_Mod_rule l G h21 (cs := cs) (u := u) (U := U) (nw := nw) (sA := sA) (eA := eA) (w9 := 3) (o := some j47) (rf := fun x => (7, gr_w cs 1, 0, some x)) (ad := ad) (fv := fv) (iv := pd_fu (pd_fu (pd_fu (pd_fu iv 37 v6) 38 (nI (gm_name cs (sA 2) (eA 2)))) 39 v8) 40 (nI (gm_name cs (sA 2) (eA 2) + 1))) (tl := tl) mo29 hL hU hW (by omega) (by omega) (fun t ht => by cases ht; omega) (fun x => ⟨rfl, rfl, rfl⟩) hpt) ok_Mod_rule ⟨mT_1371, sT_31⟩ mT_1369 ⟨by decide, by decide⟩ rfl hl.1 rfl (Nat.le_of_ble_eq_true rfl) d_p15m32_81 ⟨by decide, by decide⟩ (fun r49 h50 H locs hp51 w => ?_)
            refine W.widen (k := 0) (n := 0) (by decide) (by decide) ?_
            have hs52 := hp51.resolve_left (fun z => z.1 ⟨hps, by simp⟩)
            obtain ⟨e53, k54, fz55, iz56, f57, f58, fr59⟩ := hs52.2 j47 rfl
            have f60 := k54 _ _ ha31 (show (31 : Nat) ∉ [20, 51, 52, 53, 54, 55, 56, 57, 58] by decide)
            have f61 := k54 _ _ ha32 (show (32 : Nat) ∉ [20, 51, 52, 53, 54, 55, 56, 57, 58] by decide)
            have f62 := k54 _ _ ha33 (show (44 : Nat) ∉ [20, 51, 52, 53, 54, 55, 56, 57, 58] by decide)
            have hg : gr_dr n R k M u U cs 7 = gr_radd u U (7, gr_w cs 1, 0, some j47) := by unfold gr_dr; rw [if_pos rfl]; simp only [gr_si, ← (hbda hmem).1, ← (hbda hmem).2, e38.symm, e45.symm]; rw [if_pos (by unfold gr_mkb; rw [decide_eq_false q48]; rfl)]
            exact pd_iret (v := r49) X w (Or.inr ⟨⟨hps, hmem⟩, by rw [hg]; exact e53, pd_kx.tr (pd_kx.mono (us := [20, 51, 52, 53, 54, 55, 56, 57, 58]) (pd_kx.tr (k5) (k24)) (by simp)) (k54), fz55, iz56, f57, ⟨fr59.1, fun j hj => (fr59.2 j hj).trans (by simp at hj; simp [pd_fu, hj])⟩, (by rw [hg]; exact f58)⟩) (by decide) (by decide) d_p15m32_84
          · -- not taken: 73
            refine lv_bipush (v := -4) hx hb d_p15m32_73 (by decide) ?_
            refine lv_goto (tgt := 84) hx hb d_p15m32_75 (by decide) ?_
            have hg : gr_dr n R k M u U cs 7 = (-4, u, U) := by unfold gr_dr; rw [if_pos rfl]; simp only [gr_si, ← (hbda hmem).1, ← (hbda hmem).2, e38.symm, e45.symm]; rw [if_neg (fun h9 => by unfold gr_mkb at h9; rw [decide_eq_true q48] at h9; cases h9)]
            exact pd_iret (v := (-4)) X w (Or.inr ⟨⟨hps, hmem⟩, by rw [hg], pd_kx.mono (us := [20, 51, 52, 53, 54, 55, 56, 57, 58]) (pd_kx.tr (k5) (k24)) (by simp), _, _, mo29, ⟨fun _ _ => rfl, fun j hj => by simp at hj; simp [pd_fu, hj]⟩, (by rw [hg]; exact hU)⟩) (by decide) (by decide) d_p15m32_84
    · -- not taken: 16
      refine lv_iconst (v := -1) hx hb d_p15m32_16 (by decide) ?_
      exact pd_iret (v := (-1)) X w (Or.inl ⟨(fun z => by have z1 := z.2; rw [← e23, q34] at z1; cases z1), rfl, pd_kx.mono (us := [20, 51, 52, 53, 54, 55, 56, 57, 58]) (pd_kx.tr (k5) (k24)) (by simp), _, _, mo29, ⟨fun _ _ => rfl, fun j hj => by simp at hj; simp [pd_fu, hj]⟩, hU⟩) (by decide) (by decide) d_p15m32_17
