def gm_mem (cs : List Nat) (x to : Nat) : Bool := decide (x < gm_name cs x to ∧ gm_name cs x to + 1 < to ∧ cs.getD (gm_name cs x to) 0 = 46 ∧ gm_part cs (gm_name cs x to + 1) to = to ∧ to - (gm_name cs x to + 1) ≤ 12)
theorem gm_oct (x : Int64) : (x &&& 255).toInt32 = nI (x.toBitVec.toNat % 256) := by
  apply Int32.toBitVec_inj.mp
  apply BitVec.eq_of_toNat_eq
  rw [Int64.toBitVec_toInt32, Int64.toBitVec_and, BitVec.signExtend_eq_setWidth_of_le _ (by decide), BitVec.toNat_setWidth, BitVec.toNat_and, pk_tn (by omega), show (255 : Int64).toBitVec.toNat = 2 ^ 8 - 1 from rfl, Nat.and_two_pow_sub_one_eq_mod]
  omega
theorem d_p15m12_0 : decode prog_15_method_12_code 0 = .ok (.aload_n 0, 1) := by decide +kernel
theorem d_p15m12_1 : decode prog_15_method_12_code 1 = .ok (.getfield 16, 3) := by decide +kernel
theorem d_p15m12_4 : decode prog_15_method_12_code 4 = .ok (.iload_n 1, 1) := by decide +kernel
theorem d_p15m12_5 : decode prog_15_method_12_code 5 = .ok (.iaload, 1) := by decide +kernel
theorem d_p15m12_6 : decode prog_15_method_12_code 6 = .ok (.istore_n 2, 1) := by decide +kernel
theorem d_p15m12_7 : decode prog_15_method_12_code 7 = .ok (.aload_n 0, 1) := by decide +kernel
theorem d_p15m12_8 : decode prog_15_method_12_code 8 = .ok (.aload_n 0, 1) := by decide +kernel
theorem d_p15m12_9 : decode prog_15_method_12_code 9 = .ok (.aload_n 0, 1) := by decide +kernel
theorem d_p15m12_10 : decode prog_15_method_12_code 10 = .ok (.getfield 13, 3) := by decide +kernel
theorem d_p15m12_13 : decode prog_15_method_12_code 13 = .ok (.iload_n 1, 1) := by decide +kernel
theorem d_p15m12_14 : decode prog_15_method_12_code 14 = .ok (.iaload, 1) := by decide +kernel
theorem d_p15m12_15 : decode prog_15_method_12_code 15 = .ok (.iload_n 2, 1) := by decide +kernel
theorem d_p15m12_16 : decode prog_15_method_12_code 16 = .ok (.invokevirtual 127, 3) := by decide +kernel
theorem d_p15m12_19 : decode prog_15_method_12_code 19 = .ok (.putfield 130, 3) := by decide +kernel
theorem d_p15m12_22 : decode prog_15_method_12_code 22 = .ok (.aload_n 0, 1) := by decide +kernel
theorem d_p15m12_23 : decode prog_15_method_12_code 23 = .ok (.aload_n 0, 1) := by decide +kernel
theorem d_p15m12_24 : decode prog_15_method_12_code 24 = .ok (.getfield 130, 3) := by decide +kernel
theorem d_p15m12_27 : decode prog_15_method_12_code 27 = .ok (.iconst 1, 1) := by decide +kernel
theorem d_p15m12_28 : decode prog_15_method_12_code 28 = .ok (.iadd, 1) := by decide +kernel
theorem d_p15m12_29 : decode prog_15_method_12_code 29 = .ok (.putfield 133, 3) := by decide +kernel
theorem d_p15m12_32 : decode prog_15_method_12_code 32 = .ok (.aload_n 0, 1) := by decide +kernel
theorem d_p15m12_33 : decode prog_15_method_12_code 33 = .ok (.getfield 130, 3) := by decide +kernel
theorem d_p15m12_36 : decode prog_15_method_12_code 36 = .ok (.aload_n 0, 1) := by decide +kernel
theorem d_p15m12_37 : decode prog_15_method_12_code 37 = .ok (.getfield 13, 3) := by decide +kernel
theorem d_p15m12_40 : decode prog_15_method_12_code 40 = .ok (.iload_n 1, 1) := by decide +kernel
theorem d_p15m12_41 : decode prog_15_method_12_code 41 = .ok (.iaload, 1) := by decide +kernel
theorem d_p15m12_42 : decode prog_15_method_12_code 42 = .ok (.if_icmp .le 53, 3) := by decide +kernel
theorem d_p15m12_45 : decode prog_15_method_12_code 45 = .ok (.aload_n 0, 1) := by decide +kernel
theorem d_p15m12_46 : decode prog_15_method_12_code 46 = .ok (.getfield 133, 3) := by decide +kernel
theorem d_p15m12_49 : decode prog_15_method_12_code 49 = .ok (.iload_n 2, 1) := by decide +kernel
theorem d_p15m12_50 : decode prog_15_method_12_code 50 = .ok (.if_icmp .ge 45, 3) := by decide +kernel
theorem d_p15m12_53 : decode prog_15_method_12_code 53 = .ok (.aload_n 0, 1) := by decide +kernel
theorem d_p15m12_54 : decode prog_15_method_12_code 54 = .ok (.getfield 7, 3) := by decide +kernel
theorem d_p15m12_57 : decode prog_15_method_12_code 57 = .ok (.aload_n 0, 1) := by decide +kernel
theorem d_p15m12_58 : decode prog_15_method_12_code 58 = .ok (.getfield 130, 3) := by decide +kernel
theorem d_p15m12_61 : decode prog_15_method_12_code 61 = .ok (.iaload, 1) := by decide +kernel
theorem d_p15m12_62 : decode prog_15_method_12_code 62 = .ok (.bipush 46, 2) := by decide +kernel
theorem d_p15m12_64 : decode prog_15_method_12_code 64 = .ok (.if_icmp .ne 31, 3) := by decide +kernel
theorem d_p15m12_67 : decode prog_15_method_12_code 67 = .ok (.aload_n 0, 1) := by decide +kernel
theorem d_p15m12_68 : decode prog_15_method_12_code 68 = .ok (.aload_n 0, 1) := by decide +kernel
theorem d_p15m12_69 : decode prog_15_method_12_code 69 = .ok (.getfield 133, 3) := by decide +kernel
theorem d_p15m12_72 : decode prog_15_method_12_code 72 = .ok (.iload_n 2, 1) := by decide +kernel
theorem d_p15m12_73 : decode prog_15_method_12_code 73 = .ok (.invokevirtual 123, 3) := by decide +kernel
theorem d_p15m12_76 : decode prog_15_method_12_code 76 = .ok (.iload_n 2, 1) := by decide +kernel
theorem d_p15m12_77 : decode prog_15_method_12_code 77 = .ok (.if_icmp .ne 18, 3) := by decide +kernel
theorem d_p15m12_80 : decode prog_15_method_12_code 80 = .ok (.iload_n 2, 1) := by decide +kernel
theorem d_p15m12_81 : decode prog_15_method_12_code 81 = .ok (.aload_n 0, 1) := by decide +kernel
theorem d_p15m12_82 : decode prog_15_method_12_code 82 = .ok (.getfield 133, 3) := by decide +kernel
theorem d_p15m12_85 : decode prog_15_method_12_code 85 = .ok (.isub, 1) := by decide +kernel
theorem d_p15m12_86 : decode prog_15_method_12_code 86 = .ok (.bipush 12, 2) := by decide +kernel
theorem d_p15m12_88 : decode prog_15_method_12_code 88 = .ok (.if_icmp .gt 7, 3) := by decide +kernel
theorem d_p15m12_91 : decode prog_15_method_12_code 91 = .ok (.iconst 1, 1) := by decide +kernel
theorem d_p15m12_92 : decode prog_15_method_12_code 92 = .ok (.goto 4, 3) := by decide +kernel
theorem d_p15m12_95 : decode prog_15_method_12_code 95 = .ok (.iconst 0, 1) := by decide +kernel
theorem d_p15m12_96 : decode prog_15_method_12_code 96 = .ok (.ireturn, 1) := by decide +kernel
abbrev y_Mod_isMember : MethodName := ⟨"PolicyDeskModel", "isMember", "(I)Z"⟩
theorem ok_Mod_isMember : pd_ok y_Mod_isMember prog_15_method_12_code 3 (some .boolean) 1 := ⟨mT_1341, mT_21, by decide, by decide +kernel⟩
abbrev rm_Mod_isMember : Room := { frames := 4, cells := 0, slots := 0, locals := 88 }
set_option maxHeartbeats 4000000 in
set_option maxRecDepth 100000 in
theorem c_Mod_isMember (l : Launch) (G : pd_G) (h : pd_H) {y : Nat} {ad : Nat → Nat} {fv : Nat → Nat → Int32} {iv : Nat → Int32} {tl : Int64} {cs : List Nat} {nw i0 : Nat} {sA eA : Nat → Nat} (hMO : pd_MO G h y ad fv iv tl) (hL : gm_L fv iv cs) (hW : gm_W fv cs nw sA eA) (hiw : i0 < nw) : pd_M l y_Mod_isMember prog_15_method_12_code 3 (some .boolean) rm_Mod_isMember G h [.ref y, .int (nI i0)] pd_vb (fun r h1 => r = gm_mem cs (sA i0) (eA i0) ∧ pd_kx [20] h h1 ∧ pd_MO G h1 y ad fv (pd_fu (pd_fu iv 38 (nI (gm_name cs (sA i0) (eA i0)))) 40 (nI (gm_name cs (sA i0) (eA i0) + 1))) tl) := by
  refine pd_M.of (by decide) (Nat.le_of_ble_eq_true rfl) ?_
  intro p e s m below meth c X hmn w ls hl
  have hx := X.1
  have hb := X.2.1
  have hl : lv_has ls 3 [(0, .ref y), (1, .int (nI i0))] := hl
  have hz_y := hMO.2.1
  have hy0 : h y = some (20, .inr (10, [.ref (ad 0), .ref (ad 1), .ref (ad 2), .int (iv 3), .int (iv 4), .int (iv 5), .ref (ad 6), .ref (ad 7), .ref (ad 8), .ref (ad 9), .ref (ad 10), .ref (ad 11), .int (iv 12), .ref (ad 13), .ref (ad 14), .ref (ad 15), .ref (ad 16), .ref (ad 17), .ref (ad 18), .ref (ad 19), .int (iv 20), .ref (ad 21), .ref (ad 22), .ref (ad 23), .ref (ad 24), .ref (ad 25), .ref (ad 26), .ref (ad 27), .ref (ad 28), .int (iv 29), .ref (ad 30), .ref (ad 31), .int (iv 32), .int (iv 33), .int (iv 34), .int (iv 35), .long tl, .int (iv 37), .int (iv 38), .int (iv 39), .int (iv 40), .ref (ad 41), .ref (ad 42), .int (iv 43)])) := hMO.1
  have ha0 : h (ad 0) = some (30, .inl (.int, 60, .inl (fv 0))) := (hMO.2.2 0 (by decide)).1
  have ha1 : h (ad 1) = some (31, .inl (.int, 40, .inl (fv 1))) := (hMO.2.2 1 (by decide)).1
  have ha2 : h (ad 2) = some (32, .inl (.int, 40, .inl (fv 2))) := (hMO.2.2 2 (by decide)).1
  obtain ⟨hiv3, hln, hl60, hlc⟩ := id hL
  have hw31 := hW.1
  obtain ⟨hws, hwe, hwl, hwc⟩ := hW.2 i0 hiw
  refine lv_aload_n hx hb d_p15m12_0 rfl (lv_at hl 0 rfl) ?_
  refine pd_get X w hy0 rfl 2 (by decide) mT_1141 rfl rfl d_p15m12_1 ?_
  refine lv_iload_n hx hb d_p15m12_4 rfl (lv_at hl 1 rfl) ?_
  refine pd_iald X w ha2 (by omega) (by omega) d_p15m12_5 ?_
  refine pd_top (v' := .int (nI (eA i0))) (congrArg Value.int hwe) ?_
  refine lv_istore_n (lv' := [(2, .int (nI (eA i0))), (0, .ref y), (1, .int (nI i0))]) hx hb d_p15m12_6 rfl hl (by decide) rfl (fun ls hl => ?_)
  refine lv_aload_n hx hb d_p15m12_7 rfl (lv_at hl 1 rfl) ?_
  refine lv_aload_n hx hb d_p15m12_8 rfl (lv_at hl 1 rfl) ?_
  refine lv_aload_n hx hb d_p15m12_9 rfl (lv_at hl 1 rfl) ?_
  refine pd_get X w hy0 rfl 1 (by decide) mT_1140 rfl rfl d_p15m12_10 ?_
  refine lv_iload_n hx hb d_p15m12_13 rfl (lv_at hl 2 rfl) ?_
  refine pd_iald X w ha1 (by omega) (by omega) d_p15m12_14 ?_
  refine pd_top (v' := .int (nI (sA i0))) (congrArg Value.int hws) ?_
  refine lv_iload_n hx hb d_p15m12_15 rfl (lv_at hl 0 rfl) ?_
  refine pd_cV (a := y) (As := [.int (nI (sA i0)), .int (nI (eA i0))]) (rest := [.ref y]) X w hy0 rfl (c_PolicyDeskModel_behindName l G h (ad := ad) (fv := fv) (iv := iv) (tl := tl) hMO (by assumption) (by omega) (by omega)) ok_PolicyDeskModel_behindName ⟨mT_1311, sT_18⟩ mT_1309 ⟨by decide, by decide⟩ rfl hl.1 rfl (Nat.le_of_ble_eq_true rfl) d_p15m12_16 ⟨by decide, by decide⟩ (fun r1 h2 H locs hp3 w => ?_)
  refine W.widen (k := 0) (n := 0) (by decide) (by decide) ?_
  obtain ⟨e4, rfl⟩ := hp3
  subst e4
  have hnl := gm_name_le (cs := cs) (Nat.le_of_lt hwl)
  refine pd_put (ty := .int) X w hy0 hz_y rfl 38 (by decide) mT_1177 rfl rfl (by decide +kernel) rfl rfl (Nat.le_of_ble_eq_true rfl) d_p15m12_19 (fun H locs w => ?_)
  have w : pd_w G s H locs (pd_up h y (20, .inr (10, [.ref (ad 0), .ref (ad 1), .ref (ad 2), .int (iv 3), .int (iv 4), .int (iv 5), .ref (ad 6), .ref (ad 7), .ref (ad 8), .ref (ad 9), .ref (ad 10), .ref (ad 11), .int (iv 12), .ref (ad 13), .ref (ad 14), .ref (ad 15), .ref (ad 16), .ref (ad 17), .ref (ad 18), .ref (ad 19), .int (iv 20), .ref (ad 21), .ref (ad 22), .ref (ad 23), .ref (ad 24), .ref (ad 25), .ref (ad 26), .ref (ad 27), .ref (ad 28), .int (iv 29), .ref (ad 30), .ref (ad 31), .int (iv 32), .int (iv 33), .int (iv 34), .int (iv 35), .long tl, .int (iv 37), .int (nI (gm_name cs (sA i0) (eA i0))), .int (iv 39), .int (iv 40), .ref (ad 41), .ref (ad 42), .int (iv 43)]))) := w
  obtain ⟨h5, u8⟩ : ∃ z, z = pd_up h y (20, .inr (10, [.ref (ad 0), .ref (ad 1), .ref (ad 2), .int (iv 3), .int (iv 4), .int (iv 5), .ref (ad 6), .ref (ad 7), .ref (ad 8), .ref (ad 9), .ref (ad 10), .ref (ad 11), .int (iv 12), .ref (ad 13), .ref (ad 14), .ref (ad 15), .ref (ad 16), .ref (ad 17), .ref (ad 18), .ref (ad 19), .int (iv 20), .ref (ad 21), .ref (ad 22), .ref (ad 23), .ref (ad 24), .ref (ad 25), .ref (ad 26), .ref (ad 27), .ref (ad 28), .int (iv 29), .ref (ad 30), .ref (ad 31), .int (iv 32), .int (iv 33), .int (iv 34), .int (iv 35), .long tl, .int (iv 37), .int (nI (gm_name cs (sA i0) (eA i0))), .int (iv 39), .int (iv 40), .ref (ad 41), .ref (ad 42), .int (iv 43)])) := ⟨_, rfl⟩
  rw [← u8] at w
  have k6 : pd_kq y h h5 := by rw [u8]; exact pd_up_kq
  have f7 : h5 y = some (20, .inr (10, [.ref (ad 0), .ref (ad 1), .ref (ad 2), .int (iv 3), .int (iv 4), .int (iv 5), .ref (ad 6), .ref (ad 7), .ref (ad 8), .ref (ad 9), .ref (ad 10), .ref (ad 11), .int (iv 12), .ref (ad 13), .ref (ad 14), .ref (ad 15), .ref (ad 16), .ref (ad 17), .ref (ad 18), .ref (ad 19), .int (iv 20), .ref (ad 21), .ref (ad 22), .ref (ad 23), .ref (ad 24), .ref (ad 25), .ref (ad 26), .ref (ad 27), .ref (ad 28), .int (iv 29), .ref (ad 30), .ref (ad 31), .int (iv 32), .int (iv 33), .int (iv 34), .int (iv 35), .long tl, .int (iv 37), .int (nI (gm_name cs (sA i0) (eA i0))), .int (iv 39), .int (iv 40), .ref (ad 41), .ref (ad 42), .int (iv 43)])) := by rw [u8]; exact pd_up_s _ _ _
  have f9 := k6 _ _ (pd_ne ha0 hy0 (by simp)) ha0
  have f10 := k6 _ _ (pd_ne ha1 hy0 (by simp)) ha1
  have f11 := k6 _ _ (pd_ne ha2 hy0 (by simp)) ha2
  refine lv_aload_n hx hb d_p15m12_22 rfl (lv_at hl 1 rfl) ?_
  refine lv_aload_n hx hb d_p15m12_23 rfl (lv_at hl 1 rfl) ?_
  refine pd_get X w f7 rfl 38 (by decide) mT_1177 rfl rfl d_p15m12_24 ?_
  refine lv_iconst (v := nI 1) hx hb d_p15m12_27 (by decide) ?_
  refine pd_iadd hx hb d_p15m12_28 ?_
  refine pd_put (ty := .int) X w f7 hz_y rfl 40 (by decide) mT_1179 rfl rfl (by decide +kernel) rfl rfl (Nat.le_of_ble_eq_true rfl) d_p15m12_29 (fun H locs w => ?_)
  have w : pd_w G s H locs (pd_up h5 y (20, .inr (10, [.ref (ad 0), .ref (ad 1), .ref (ad 2), .int (iv 3), .int (iv 4), .int (iv 5), .ref (ad 6), .ref (ad 7), .ref (ad 8), .ref (ad 9), .ref (ad 10), .ref (ad 11), .int (iv 12), .ref (ad 13), .ref (ad 14), .ref (ad 15), .ref (ad 16), .ref (ad 17), .ref (ad 18), .ref (ad 19), .int (iv 20), .ref (ad 21), .ref (ad 22), .ref (ad 23), .ref (ad 24), .ref (ad 25), .ref (ad 26), .ref (ad 27), .ref (ad 28), .int (iv 29), .ref (ad 30), .ref (ad 31), .int (iv 32), .int (iv 33), .int (iv 34), .int (iv 35), .long tl, .int (iv 37), .int (nI (gm_name cs (sA i0) (eA i0))), .int (iv 39), .int (nI ((gm_name cs (sA i0) (eA i0)) + 1)), .ref (ad 41), .ref (ad 42), .int (iv 43)]))) := w
  obtain ⟨h12, u15⟩ : ∃ z, z = pd_up h5 y (20, .inr (10, [.ref (ad 0), .ref (ad 1), .ref (ad 2), .int (iv 3), .int (iv 4), .int (iv 5), .ref (ad 6), .ref (ad 7), .ref (ad 8), .ref (ad 9), .ref (ad 10), .ref (ad 11), .int (iv 12), .ref (ad 13), .ref (ad 14), .ref (ad 15), .ref (ad 16), .ref (ad 17), .ref (ad 18), .ref (ad 19), .int (iv 20), .ref (ad 21), .ref (ad 22), .ref (ad 23), .ref (ad 24), .ref (ad 25), .ref (ad 26), .ref (ad 27), .ref (ad 28), .int (iv 29), .ref (ad 30), .ref (ad 31), .int (iv 32), .int (iv 33), .int (iv 34), .int (iv 35), .long tl, .int (iv 37), .int (nI (gm_name cs (sA i0) (eA i0))), .int (iv 39), .int (nI ((gm_name cs (sA i0) (eA i0)) + 1)), .ref (ad 41), .ref (ad 42), .int (iv 43)])) := ⟨_, rfl⟩
  rw [← u15] at w
  have k13 : pd_kq y h5 h12 := by rw [u15]; exact pd_up_kq
  have f14 : h12 y = some (20, .inr (10, [.ref (ad 0), .ref (ad 1), .ref (ad 2), .int (iv 3), .int (iv 4), .int (iv 5), .ref (ad 6), .ref (ad 7), .ref (ad 8), .ref (ad 9), .ref (ad 10), .ref (ad 11), .int (iv 12), .ref (ad 13), .ref (ad 14), .ref (ad 15), .ref (ad 16), .ref (ad 17), .ref (ad 18), .ref (ad 19), .int (iv 20), .ref (ad 21), .ref (ad 22), .ref (ad 23), .ref (ad 24), .ref (ad 25), .ref (ad 26), .ref (ad 27), .ref (ad 28), .int (iv 29), .ref (ad 30), .ref (ad 31), .int (iv 32), .int (iv 33), .int (iv 34), .int (iv 35), .long tl, .int (iv 37), .int (nI (gm_name cs (sA i0) (eA i0))), .int (iv 39), .int (nI ((gm_name cs (sA i0) (eA i0)) + 1)), .ref (ad 41), .ref (ad 42), .int (iv 43)])) := by rw [u15]; exact pd_up_s _ _ _
  have f16 := k13 _ _ (pd_ne f9 f7 (by simp)) f9
  have f17 := k13 _ _ (pd_ne f10 f7 (by simp)) f10
  have f18 := k13 _ _ (pd_ne f11 f7 (by simp)) f11
  refine lv_aload_n hx hb d_p15m12_32 rfl (lv_at hl 1 rfl) ?_
  refine pd_get X w f14 rfl 38 (by decide) mT_1177 rfl rfl d_p15m12_33 ?_
  refine lv_aload_n hx hb d_p15m12_36 rfl (lv_at hl 1 rfl) ?_
  refine pd_get X w f14 rfl 1 (by decide) mT_1140 rfl rfl d_p15m12_37 ?_
  refine lv_iload_n hx hb d_p15m12_40 rfl (lv_at hl 2 rfl) ?_
  refine pd_iald X w f17 (by omega) (by omega) d_p15m12_41 ?_
  refine pd_top (v' := .int (nI (sA i0))) (congrArg Value.int hws) ?_
  refine pd_jle (tgt := 95) hx hb d_p15m12_42 (by decide) (by omega) (by omega) (fun q19 => ?_) (fun q19 => ?_)
  · -- taken: 95
    refine lv_iconst (v := nI 0) hx hb d_p15m12_95 (by decide) ?_
    refine W.eq (g2 := F0 m 96 ls [.int (pd_b false)]) rfl ?_
    exact pd_zret (v := false) X w ⟨(decide_eq_false (fun z => by omega)).symm, pd_kx.tr (pd_kq.kx (k6) hy0) (pd_kq.kx (k13) f7), (pd_MO.of (fv2 := fv) (iv2 := pd_fu (pd_fu iv 38 (nI (gm_name cs (sA i0) (eA i0)))) 40 (nI ((gm_name cs (sA i0) (eA i0)) + 1))) (tl2 := tl) (ts := [20]) hMO (pd_kx.tr (pd_kq.kx (k6) hy0) (pd_kq.kx (k13) f7)) f14 (fun j hj => Or.inr ⟨fun z => by first | (simp at z; done) | (simp at z; omega), rfl⟩))⟩ (by decide) (by decide) d_p15m12_96
  · -- not taken: 45
    refine lv_aload_n hx hb d_p15m12_45 rfl (lv_at hl 1 rfl) ?_
    refine pd_get X w f14 rfl 40 (by decide) mT_1179 rfl rfl d_p15m12_46 ?_
    refine lv_iload_n hx hb d_p15m12_49 rfl (lv_at hl 0 rfl) ?_
    refine pd_jge (tgt := 95) hx hb d_p15m12_50 (by decide) (by omega) (by omega) (fun q20 => ?_) (fun q20 => ?_)
    · -- taken: 95
      refine lv_iconst (v := nI 0) hx hb d_p15m12_95 (by decide) ?_
      refine W.eq (g2 := F0 m 96 ls [.int (pd_b false)]) rfl ?_
      exact pd_zret (v := false) X w ⟨(decide_eq_false (fun z => by omega)).symm, pd_kx.tr (pd_kq.kx (k6) hy0) (pd_kq.kx (k13) f7), (pd_MO.of (fv2 := fv) (iv2 := pd_fu (pd_fu iv 38 (nI (gm_name cs (sA i0) (eA i0)))) 40 (nI ((gm_name cs (sA i0) (eA i0)) + 1))) (tl2 := tl) (ts := [20]) hMO (pd_kx.tr (pd_kq.kx (k6) hy0) (pd_kq.kx (k13) f7)) f14 (fun j hj => Or.inr ⟨fun z => by first | (simp at z; done) | (simp at z; omega), rfl⟩))⟩ (by decide) (by decide) d_p15m12_96
    · -- not taken: 53
      refine lv_aload_n hx hb d_p15m12_53 rfl (lv_at hl 1 rfl) ?_
      refine pd_get X w f14 rfl 0 (by decide) mT_1139 rfl rfl d_p15m12_54 ?_
      refine lv_aload_n hx hb d_p15m12_57 rfl (lv_at hl 1 rfl) ?_
      refine pd_get X w f14 rfl 38 (by decide) mT_1177 rfl rfl d_p15m12_58 ?_
      refine pd_iald X w f16 (by omega) (by omega) d_p15m12_61 ?_
      refine pd_top (v' := .int (nI (cs.getD (gm_name cs (sA i0) (eA i0)) 0))) (congrArg Value.int (hln _ (by omega))) ?_
      have := tx_lt hlc (gm_name cs (sA i0) (eA i0))
      refine lv_bipush (v := nI 46) hx hb d_p15m12_62 (by decide) ?_
      refine pd_jne (tgt := 95) hx hb d_p15m12_64 (by decide) (by omega) (by omega) (fun q21 => ?_) (fun q21 => ?_)
      · -- taken: 95
        refine lv_iconst (v := nI 0) hx hb d_p15m12_95 (by decide) ?_
        refine W.eq (g2 := F0 m 96 ls [.int (pd_b false)]) rfl ?_
        exact pd_zret (v := false) X w ⟨(decide_eq_false (fun z => by omega)).symm, pd_kx.tr (pd_kq.kx (k6) hy0) (pd_kq.kx (k13) f7), (pd_MO.of (fv2 := fv) (iv2 := pd_fu (pd_fu iv 38 (nI (gm_name cs (sA i0) (eA i0)))) 40 (nI ((gm_name cs (sA i0) (eA i0)) + 1))) (tl2 := tl) (ts := [20]) hMO (pd_kx.tr (pd_kq.kx (k6) hy0) (pd_kq.kx (k13) f7)) f14 (fun j hj => Or.inr ⟨fun z => by first | (simp at z; done) | (simp at z; omega), rfl⟩))⟩ (by decide) (by decide) d_p15m12_96
      · -- not taken: 67
        refine lv_aload_n hx hb d_p15m12_67 rfl (lv_at hl 1 rfl) ?_
        refine lv_aload_n hx hb d_p15m12_68 rfl (lv_at hl 1 rfl) ?_
        refine pd_get X w f14 rfl 40 (by decide) mT_1179 rfl rfl d_p15m12_69 ?_
        refine lv_iload_n hx hb d_p15m12_72 rfl (lv_at hl 0 rfl) ?_
        refine pd_cV (a := y) (As := [.int (nI ((gm_name cs (sA i0) (eA i0)) + 1)), .int (nI (eA i0))]) (rest := []) X w f14 rfl (c_PolicyDeskModel_behindPart l G h12 (ad := ad) (fv := fv) (iv := pd_fu (pd_fu iv 38 (nI (gm_name cs (sA i0) (eA i0)))) 40 (nI ((gm_name cs (sA i0) (eA i0)) + 1))) (tl := tl) (pd_MO.of (fv2 := fv) (iv2 := pd_fu (pd_fu iv 38 (nI (gm_name cs (sA i0) (eA i0)))) 40 (nI ((gm_name cs (sA i0) (eA i0)) + 1))) (tl2 := tl) (ts := [20]) hMO (pd_kx.tr (pd_kq.kx (k6) hy0) (pd_kq.kx (k13) f7)) f14 (fun j hj => Or.inr ⟨fun z => by first | (simp at z; done) | (simp at z; omega), rfl⟩)) hL (by omega) (by omega)) ok_PolicyDeskModel_behindPart ⟨mT_1315, sT_19⟩ mT_1313 ⟨by decide, by decide⟩ rfl hl.1 rfl (Nat.le_of_ble_eq_true rfl) d_p15m12_73 ⟨by decide, by decide⟩ (fun r22 h23 H locs hp24 w => ?_)
        refine W.widen (k := 0) (n := 0) (by decide) (by decide) ?_
        obtain ⟨e25, rfl⟩ := hp24
        have hpl := gm_part_le (cs := cs) (x := gm_name cs (sA i0) (eA i0) + 1) (to := eA i0) (by omega)
        refine lv_iload_n hx hb d_p15m12_76 rfl (lv_at hl 0 rfl) ?_
        refine pd_jne (tgt := 95) hx hb d_p15m12_77 (by decide) (by omega) (by omega) (fun q26 => ?_) (fun q26 => ?_)
        · -- taken: 95
          refine lv_iconst (v := nI 0) hx hb d_p15m12_95 (by decide) ?_
          refine W.eq (g2 := F0 m 96 ls [.int (pd_b false)]) rfl ?_
          exact pd_zret (v := false) X w ⟨(decide_eq_false (fun z => by have z4 := z.2.2.2.1; rw [← e25] at z4; omega)).symm, pd_kx.tr (pd_kq.kx (k6) hy0) (pd_kq.kx (k13) f7), (pd_MO.of (fv2 := fv) (iv2 := pd_fu (pd_fu iv 38 (nI (gm_name cs (sA i0) (eA i0)))) 40 (nI ((gm_name cs (sA i0) (eA i0)) + 1))) (tl2 := tl) (ts := [20]) hMO (pd_kx.tr (pd_kq.kx (k6) hy0) (pd_kq.kx (k13) f7)) f14 (fun j hj => Or.inr ⟨fun z => by first | (simp at z; done) | (simp at z; omega), rfl⟩))⟩ (by decide) (by decide) d_p15m12_96
        · -- not taken: 80
          refine lv_iload_n hx hb d_p15m12_80 rfl (lv_at hl 0 rfl) ?_
          refine lv_aload_n hx hb d_p15m12_81 rfl (lv_at hl 1 rfl) ?_
          refine pd_get X w f14 rfl 40 (by decide) mT_1179 rfl rfl d_p15m12_82 ?_
          refine pd_isub hx hb d_p15m12_85 (by omega) ?_
          refine lv_bipush (v := nI 12) hx hb d_p15m12_86 (by decide) ?_
          refine pd_jgt (tgt := 95) hx hb d_p15m12_88 (by decide) (by omega) (by omega) (fun q27 => ?_) (fun q27 => ?_)
          · -- taken: 95
            refine lv_iconst (v := nI 0) hx hb d_p15m12_95 (by decide) ?_
            refine W.eq (g2 := F0 m 96 ls [.int (pd_b false)]) rfl ?_
            exact pd_zret (v := false) X w ⟨(decide_eq_false (fun z => by have z4 := z.2.2.2.1; rw [← e25] at z4; omega)).symm, pd_kx.tr (pd_kq.kx (k6) hy0) (pd_kq.kx (k13) f7), (pd_MO.of (fv2 := fv) (iv2 := pd_fu (pd_fu iv 38 (nI (gm_name cs (sA i0) (eA i0)))) 40 (nI ((gm_name cs (sA i0) (eA i0)) + 1))) (tl2 := tl) (ts := [20]) hMO (pd_kx.tr (pd_kq.kx (k6) hy0) (pd_kq.kx (k13) f7)) f14 (fun j hj => Or.inr ⟨fun z => by first | (simp at z; done) | (simp at z; omega), rfl⟩))⟩ (by decide) (by decide) d_p15m12_96
          · -- not taken: 91
            refine lv_iconst (v := nI 1) hx hb d_p15m12_91 (by decide) ?_
            refine lv_goto (tgt := 96) hx hb d_p15m12_92 (by decide) ?_
            refine W.eq (g2 := F0 m 96 ls [.int (pd_b true)]) rfl ?_
            exact pd_zret (v := true) X w ⟨(decide_eq_true ⟨by omega, by omega, by omega, by rw [← e25]; omega, by omega⟩).symm, pd_kx.tr (pd_kq.kx (k6) hy0) (pd_kq.kx (k13) f7), (pd_MO.of (fv2 := fv) (iv2 := pd_fu (pd_fu iv 38 (nI (gm_name cs (sA i0) (eA i0)))) 40 (nI ((gm_name cs (sA i0) (eA i0)) + 1))) (tl2 := tl) (ts := [20]) hMO (pd_kx.tr (pd_kq.kx (k6) hy0) (pd_kq.kx (k13) f7)) f14 (fun j hj => Or.inr ⟨fun z => by first | (simp at z; done) | (simp at z; omega), rfl⟩))⟩ (by decide) (by decide) d_p15m12_96
def gm_bit (c : Nat) : Nat := if c = 115 then 1 else if c = 110 then 2 else 0
def gm_mk (cs : List Nat) (to : Nat) : Nat → Nat → Nat → Option Nat
  | 0, _, m => some m
  | n + 1, x, m => if x < to then (if gm_bit (cs.getD x 0) = 0 ∨ gr_mkb m (gm_bit (cs.getD x 0)) = true then none else gm_mk cs to n (x + 1) (m + gm_bit (cs.getD x 0))) else some m
theorem mk_or1 : ∀ m, m < 4 → nI m &&& nI 1 = 0 → nI m ||| nI 1 = nI (m + 1) ∧ m + 1 < 4 := by decide +kernel
theorem mk_or2 : ∀ m, m < 4 → nI m &&& nI 2 = 0 → nI m ||| nI 2 = nI (m + 2) ∧ m + 2 < 4 := by decide +kernel
theorem gm_mk_s {cs : List Nat} {to x m b : Nat} (h : x < to) (hb : gm_bit (cs.getD x 0) = b) (h0 : ¬ b = 0) (hm : nI m &&& nI b = 0) : gm_mk cs to (to - x) x m = gm_mk cs to (to - (x + 1)) (x + 1) (m + b) := by
  rw [show to - x = (to - (x + 1)) + 1 by omega, gm_mk, if_pos h, hb, if_neg]
  intro z
  rcases z with z | z
  · exact h0 z
  · unfold gr_mkb at z
    rw [decide_eq_true hm] at z
    cases z
theorem gm_mk_n {cs : List Nat} {to x m b : Nat} (h : x < to) (hb : gm_bit (cs.getD x 0) = b) (h0 : b = 0 ∨ ¬ nI m &&& nI b = 0) : gm_mk cs to (to - x) x m = none := by
  rw [show to - x = (to - (x + 1)) + 1 by omega, gm_mk, if_pos h, hb, if_pos]
  rcases h0 with z | z
  · exact Or.inl z
  · right
    unfold gr_mkb
    rw [decide_eq_false z]
    rfl
theorem gm_mk_e {cs : List Nat} {to x m n : Nat} (h : ¬ x < to) : gm_mk cs to n x m = some m := by
  cases n with
  | zero => rfl
  | succ n => rw [gm_mk, if_neg h]
theorem d_p15m17_0 : decode prog_15_method_17_code 0 = .ok (.iconst 0, 1) := by decide +kernel
theorem d_p15m17_1 : decode prog_15_method_17_code 1 = .ok (.istore_n 2, 1) := by decide +kernel
theorem d_p15m17_2 : decode prog_15_method_17_code 2 = .ok (.aload_n 0, 1) := by decide +kernel
theorem d_p15m17_3 : decode prog_15_method_17_code 3 = .ok (.getfield 13, 3) := by decide +kernel
theorem d_p15m17_6 : decode prog_15_method_17_code 6 = .ok (.iload_n 1, 1) := by decide +kernel
theorem d_p15m17_7 : decode prog_15_method_17_code 7 = .ok (.iaload, 1) := by decide +kernel
theorem d_p15m17_8 : decode prog_15_method_17_code 8 = .ok (.istore_n 3, 1) := by decide +kernel
theorem d_p15m17_9 : decode prog_15_method_17_code 9 = .ok (.iload_n 3, 1) := by decide +kernel
theorem d_p15m17_10 : decode prog_15_method_17_code 10 = .ok (.aload_n 0, 1) := by decide +kernel
theorem d_p15m17_11 : decode prog_15_method_17_code 11 = .ok (.getfield 16, 3) := by decide +kernel
theorem d_p15m17_14 : decode prog_15_method_17_code 14 = .ok (.iload_n 1, 1) := by decide +kernel
theorem d_p15m17_15 : decode prog_15_method_17_code 15 = .ok (.iaload, 1) := by decide +kernel
theorem d_p15m17_16 : decode prog_15_method_17_code 16 = .ok (.if_icmp .ge 61, 3) := by decide +kernel
theorem d_p15m17_19 : decode prog_15_method_17_code 19 = .ok (.aload_n 0, 1) := by decide +kernel
theorem d_p15m17_20 : decode prog_15_method_17_code 20 = .ok (.getfield 7, 3) := by decide +kernel
theorem d_p15m17_23 : decode prog_15_method_17_code 23 = .ok (.iload_n 3, 1) := by decide +kernel
theorem d_p15m17_24 : decode prog_15_method_17_code 24 = .ok (.iaload, 1) := by decide +kernel
theorem d_p15m17_25 : decode prog_15_method_17_code 25 = .ok (.bipush 115, 2) := by decide +kernel
theorem d_p15m17_27 : decode prog_15_method_17_code 27 = .ok (.if_icmp .ne 7, 3) := by decide +kernel
theorem d_p15m17_30 : decode prog_15_method_17_code 30 = .ok (.iconst 1, 1) := by decide +kernel
theorem d_p15m17_31 : decode prog_15_method_17_code 31 = .ok (.goto 19, 3) := by decide +kernel
theorem d_p15m17_34 : decode prog_15_method_17_code 34 = .ok (.aload_n 0, 1) := by decide +kernel
theorem d_p15m17_35 : decode prog_15_method_17_code 35 = .ok (.getfield 7, 3) := by decide +kernel
theorem d_p15m17_38 : decode prog_15_method_17_code 38 = .ok (.iload_n 3, 1) := by decide +kernel
theorem d_p15m17_39 : decode prog_15_method_17_code 39 = .ok (.iaload, 1) := by decide +kernel
theorem d_p15m17_40 : decode prog_15_method_17_code 40 = .ok (.bipush 110, 2) := by decide +kernel
theorem d_p15m17_42 : decode prog_15_method_17_code 42 = .ok (.if_icmp .ne 7, 3) := by decide +kernel
theorem d_p15m17_45 : decode prog_15_method_17_code 45 = .ok (.iconst 2, 1) := by decide +kernel
theorem d_p15m17_46 : decode prog_15_method_17_code 46 = .ok (.goto 4, 3) := by decide +kernel
theorem d_p15m17_49 : decode prog_15_method_17_code 49 = .ok (.iconst 0, 1) := by decide +kernel
theorem d_p15m17_50 : decode prog_15_method_17_code 50 = .ok (.istore 4, 2) := by decide +kernel
theorem d_p15m17_52 : decode prog_15_method_17_code 52 = .ok (.iload 4, 2) := by decide +kernel
theorem d_p15m17_54 : decode prog_15_method_17_code 54 = .ok (.ifCond .eq 10, 3) := by decide +kernel
theorem d_p15m17_57 : decode prog_15_method_17_code 57 = .ok (.iload_n 2, 1) := by decide +kernel
theorem d_p15m17_58 : decode prog_15_method_17_code 58 = .ok (.iload 4, 2) := by decide +kernel
theorem d_p15m17_60 : decode prog_15_method_17_code 60 = .ok (.iand, 1) := by decide +kernel
theorem d_p15m17_61 : decode prog_15_method_17_code 61 = .ok (.ifCond .eq 5, 3) := by decide +kernel
theorem d_p15m17_64 : decode prog_15_method_17_code 64 = .ok (.iconst (-1), 1) := by decide +kernel
theorem d_p15m17_65 : decode prog_15_method_17_code 65 = .ok (.ireturn, 1) := by decide +kernel
theorem d_p15m17_66 : decode prog_15_method_17_code 66 = .ok (.iload_n 2, 1) := by decide +kernel
theorem d_p15m17_67 : decode prog_15_method_17_code 67 = .ok (.iload 4, 2) := by decide +kernel
theorem d_p15m17_69 : decode prog_15_method_17_code 69 = .ok (.ior, 1) := by decide +kernel
theorem d_p15m17_70 : decode prog_15_method_17_code 70 = .ok (.istore_n 2, 1) := by decide +kernel
theorem d_p15m17_71 : decode prog_15_method_17_code 71 = .ok (.iinc 3 1, 3) := by decide +kernel
theorem d_p15m17_74 : decode prog_15_method_17_code 74 = .ok (.goto (-65), 3) := by decide +kernel
theorem d_p15m17_77 : decode prog_15_method_17_code 77 = .ok (.iload_n 2, 1) := by decide +kernel
theorem d_p15m17_78 : decode prog_15_method_17_code 78 = .ok (.ireturn, 1) := by decide +kernel
abbrev y_Mod_marksOf : MethodName := ⟨"PolicyDeskModel", "marksOf", "(I)I"⟩
theorem ok_Mod_marksOf : pd_ok y_Mod_marksOf prog_15_method_17_code 5 (some .int) 1 := ⟨mT_1357, mT_21, by decide, by decide +kernel⟩
abbrev rm_Mod_marksOf : Room := { frames := 0, cells := 0, slots := 0, locals := 0 }
set_option maxHeartbeats 4000000 in
set_option maxRecDepth 100000 in
theorem lp_Mod_marksOf_9 (l : Launch) (G : pd_G) (h : pd_H) {y : Nat} {ad : Nat → Nat} {fv : Nat → Nat → Int32} {iv : Nat → Int32} {tl : Int64} {cs : List Nat} {nw i0 : Nat} {sA eA : Nat → Nat} (hMO : pd_MO G h y ad fv iv tl) (hL : gm_L fv iv cs) (hW : gm_W fv cs nw sA eA) (hiw : i0 < nw) {p : Program} {e : Env} {s : State} {m : MethodId} {below : List Frame} {meth : Method} {c : Code} (X : pd_B p s m [.ref y, .int (nI i0)].toArray meth c G y_Mod_marksOf.cls prog_15_method_17_code 5 (some .int)) (hmn : meth.name = y_Mod_marksOf.name) :
    ∀ (kk9 : Nat) (i : Nat) (m9 : Nat), (sA i0 ≤ i ∧ i ≤ eA i0) → (m9 < 4) → (gm_mk cs (eA i0) (eA i0 - i) i m9 = gm_mk cs (eA i0) (eA i0 - sA i0) (sA i0) 0) → eA i0 - i < kk9 → ∀ (H : Heap) (locs : List Loc), pd_w G s H locs h → ∀ ls : Array Slot, lv_has ls 5 [(3, .int (nI i)), (2, .int (nI m9)), (0, .ref y), (1, .int (nI i0))] → W p l e rm_Mod_marksOf s m [.ref y, .int (nI i0)].toArray below meth c H locs 0 0 (MQ below (pd_Q G pd_vm (fun r h1 => r = gm_mk cs (eA i0) (eA i0 - sA i0) (sA i0) 0 ∧ h = h1)) [.ref y, .int (nI i0)].toArray s rm_Mod_marksOf.cells rm_Mod_marksOf.slots (fun q => G.2.1 ≤ q)) (F0 m 9 ls []) := by
  have hx := X.1
  have hb := X.2.1
  have hz_y := hMO.2.1
  have hy0 : h y = some (20, .inr (10, [.ref (ad 0), .ref (ad 1), .ref (ad 2), .int (iv 3), .int (iv 4), .int (iv 5), .ref (ad 6), .ref (ad 7), .ref (ad 8), .ref (ad 9), .ref (ad 10), .ref (ad 11), .int (iv 12), .ref (ad 13), .ref (ad 14), .ref (ad 15), .ref (ad 16), .ref (ad 17), .ref (ad 18), .ref (ad 19), .int (iv 20), .ref (ad 21), .ref (ad 22), .ref (ad 23), .ref (ad 24), .ref (ad 25), .ref (ad 26), .ref (ad 27), .ref (ad 28), .int (iv 29), .ref (ad 30), .ref (ad 31), .int (iv 32), .int (iv 33), .int (iv 34), .int (iv 35), .long tl, .int (iv 37), .int (iv 38), .int (iv 39), .int (iv 40), .ref (ad 41), .ref (ad 42), .int (iv 43)])) := hMO.1
  have ha0 : h (ad 0) = some (30, .inl (.int, 60, .inl (fv 0))) := (hMO.2.2 0 (by decide)).1
  have ha1 : h (ad 1) = some (31, .inl (.int, 40, .inl (fv 1))) := (hMO.2.2 1 (by decide)).1
  have ha2 : h (ad 2) = some (32, .inl (.int, 40, .inl (fv 2))) := (hMO.2.2 2 (by decide)).1
  obtain ⟨hiv3, hln, hl60, hlc⟩ := id hL
  have hw31 := hW.1
  obtain ⟨hws, hwe, hwl, hwc⟩ := hW.2 i0 hiw
  intro kk9
  induction kk9 with
  | zero => intros; omega
  | succ kk9 ih =>
    intro i m9 hi hm4 hv hmu H locs w ls hl
    refine lv_iload_n hx hb d_p15m17_9 rfl (lv_at hl 0 rfl) ?_
    refine lv_aload_n hx hb d_p15m17_10 rfl (lv_at hl 2 rfl) ?_
    refine pd_get X w hy0 rfl 2 (by decide) mT_1141 rfl rfl d_p15m17_11 ?_
    refine lv_iload_n hx hb d_p15m17_14 rfl (lv_at hl 3 rfl) ?_
    refine pd_iald X w ha2 (by omega) (by omega) d_p15m17_15 ?_
    refine pd_top (v' := .int (nI (eA i0))) (congrArg Value.int hwe) ?_
    refine pd_jge (tgt := 77) hx hb d_p15m17_16 (by decide) (by omega) (by omega) (fun q1 => ?_) (fun q1 => ?_)
    · -- taken: 77
      refine lv_iload_n hx hb d_p15m17_77 rfl (lv_at hl 1 rfl) ?_
      refine W.eq (g2 := F0 m 78 ls [.int (pd_m (some m9))]) rfl ?_
      exact pd_mret (v := (some m9)) X w ⟨by rw [← hv, gm_mk_e (by omega)], rfl⟩ (by decide) (by decide) d_p15m17_78
    · -- not taken: 19
      refine lv_aload_n hx hb d_p15m17_19 rfl (lv_at hl 2 rfl) ?_
      refine pd_get X w hy0 rfl 0 (by decide) mT_1139 rfl rfl d_p15m17_20 ?_
      refine lv_iload_n hx hb d_p15m17_23 rfl (lv_at hl 0 rfl) ?_
      refine pd_iald X w ha0 (by omega) (by omega) d_p15m17_24 ?_
      refine pd_top (v' := .int (nI (cs.getD i 0))) (congrArg Value.int (hln _ (by omega))) ?_
      have := tx_lt hlc i
      refine lv_bipush (v := nI 115) hx hb d_p15m17_25 (by decide) ?_
      refine pd_jne (tgt := 34) hx hb d_p15m17_27 (by decide) (by omega) (by omega) (fun q2 => ?_) (fun q2 => ?_)
      · -- taken: 34
        refine lv_aload_n hx hb d_p15m17_34 rfl (lv_at hl 2 rfl) ?_
        refine pd_get X w hy0 rfl 0 (by decide) mT_1139 rfl rfl d_p15m17_35 ?_
        refine lv_iload_n hx hb d_p15m17_38 rfl (lv_at hl 0 rfl) ?_
        refine pd_iald X w ha0 (by omega) (by omega) d_p15m17_39 ?_
        refine pd_top (v' := .int (nI (cs.getD i 0))) (congrArg Value.int (hln _ (by omega))) ?_
        have := tx_lt hlc i
        refine lv_bipush (v := nI 110) hx hb d_p15m17_40 (by decide) ?_
        refine pd_jne (tgt := 49) hx hb d_p15m17_42 (by decide) (by omega) (by omega) (fun q3 => ?_) (fun q3 => ?_)
        · -- taken: 49
          refine lv_iconst (v := nI 0) hx hb d_p15m17_49 (by decide) ?_
          refine lv_istore (lv' := [(4, .int (nI 0)), (3, .int (nI i)), (2, .int (nI m9)), (0, .ref y), (1, .int (nI i0))]) hx hb d_p15m17_50 hl (by decide) rfl (fun ls hl => ?_)
          refine lv_iload hx hb d_p15m17_52 (lv_at hl 0 rfl) ?_
          refine pd_zeq (tgt := 64) hx hb d_p15m17_54 (by decide) (by decide) (fun _ => ?_) (fun q => absurd q (by decide))
          refine lv_iconst (v := -1) hx hb d_p15m17_64 (by decide) ?_
          refine W.eq (g2 := F0 m 65 ls [.int (pd_m none)]) rfl ?_
          exact pd_mret (v := none) X w ⟨by rw [← hv, gm_mk_n (b := 0) (by omega) ((if_neg (by omega)).trans (if_neg (by omega))) (Or.inl rfl)], rfl⟩ (by decide) (by decide) d_p15m17_65
        · -- not taken: 45
          refine lv_iconst (v := nI 2) hx hb d_p15m17_45 (by decide) ?_
          refine lv_goto (tgt := 50) hx hb d_p15m17_46 (by decide) ?_
          refine lv_istore (lv' := [(4, .int (nI 2)), (3, .int (nI i)), (2, .int (nI m9)), (0, .ref y), (1, .int (nI i0))]) hx hb d_p15m17_50 hl (by decide) rfl (fun ls hl => ?_)
          refine lv_iload hx hb d_p15m17_52 (lv_at hl 0 rfl) ?_
          refine pd_zeq (tgt := 64) hx hb d_p15m17_54 (by decide) (by decide) (fun q => absurd q (by decide)) (fun _ => ?_)
          refine lv_iload_n hx hb d_p15m17_57 rfl (lv_at hl 2 rfl) ?_
          refine lv_iload hx hb d_p15m17_58 (lv_at hl 0 rfl) ?_
          refine lv_iand hx hb d_p15m17_60 ?_
          refine lv_if_eq (tgt := 66) hx hb d_p15m17_61 (by decide) (fun q6 => ?_) (fun q6 => ?_)
          · -- taken: 66
            refine lv_iload_n hx hb d_p15m17_66 rfl (lv_at hl 2 rfl) ?_
            refine lv_iload hx hb d_p15m17_67 (lv_at hl 0 rfl) ?_
            refine lv_ior hx hb d_p15m17_69 ?_
            have hor := mk_or2 m9 hm4 q6
            refine pd_top (v' := .int (nI (m9 + 2))) (congrArg Value.int hor.1) ?_
            refine lv_istore_n (lv' := [(2, .int (nI (m9 + 2))), (4, .int (nI 2)), (3, .int (nI i)), (0, .ref y), (1, .int (nI i0))]) hx hb d_p15m17_70 rfl hl (by decide) rfl (fun ls hl => ?_)
            refine pd_iinc (k := 2) (d := 1) (lv' := [(3, .int (nI (i + 1))), (2, .int (nI (m9 + 2))), (4, .int (nI 2)), (0, .ref y), (1, .int (nI i0))]) hx hb d_p15m17_71 (by decide) hl rfl (by decide) rfl (fun ls hl => ?_)
            refine lv_goto (tgt := 9) hx hb d_p15m17_74 (by decide) ?_
            exact ih (i + 1) (m9 + 2) (by omega) (hor.2) (by rw [← hv, gm_mk_s (x := i) (m := m9) (b := 2) (by omega) ((if_neg (by omega)).trans (if_pos (by omega))) (by decide) q6]) (by omega) _ _ w ls (lv_sub hl [0, 1, 3, 4] rfl)
          · -- not taken: 64
            refine lv_iconst (v := -1) hx hb d_p15m17_64 (by decide) ?_
            refine W.eq (g2 := F0 m 65 ls [.int (pd_m none)]) rfl ?_
            exact pd_mret (v := none) X w ⟨by rw [← hv, gm_mk_n (b := 2) (by omega) ((if_neg (by omega)).trans (if_pos (by omega))) (Or.inr q6)], rfl⟩ (by decide) (by decide) d_p15m17_65
      · -- not taken: 30
        refine lv_iconst (v := nI 1) hx hb d_p15m17_30 (by decide) ?_
        refine lv_goto (tgt := 50) hx hb d_p15m17_31 (by decide) ?_
        refine lv_istore (lv' := [(4, .int (nI 1)), (3, .int (nI i)), (2, .int (nI m9)), (0, .ref y), (1, .int (nI i0))]) hx hb d_p15m17_50 hl (by decide) rfl (fun ls hl => ?_)
        refine lv_iload hx hb d_p15m17_52 (lv_at hl 0 rfl) ?_
        refine pd_zeq (tgt := 64) hx hb d_p15m17_54 (by decide) (by decide) (fun q => absurd q (by decide)) (fun _ => ?_)
        refine lv_iload_n hx hb d_p15m17_57 rfl (lv_at hl 2 rfl) ?_
        refine lv_iload hx hb d_p15m17_58 (lv_at hl 0 rfl) ?_
        refine lv_iand hx hb d_p15m17_60 ?_
        refine lv_if_eq (tgt := 66) hx hb d_p15m17_61 (by decide) (fun q8 => ?_) (fun q8 => ?_)
        · -- taken: 66
          refine lv_iload_n hx hb d_p15m17_66 rfl (lv_at hl 2 rfl) ?_
          refine lv_iload hx hb d_p15m17_67 (lv_at hl 0 rfl) ?_
          refine lv_ior hx hb d_p15m17_69 ?_
          have hor := mk_or1 m9 hm4 q8
          refine pd_top (v' := .int (nI (m9 + 1))) (congrArg Value.int hor.1) ?_
          refine lv_istore_n (lv' := [(2, .int (nI (m9 + 1))), (4, .int (nI 1)), (3, .int (nI i)), (0, .ref y), (1, .int (nI i0))]) hx hb d_p15m17_70 rfl hl (by decide) rfl (fun ls hl => ?_)
          refine pd_iinc (k := 2) (d := 1) (lv' := [(3, .int (nI (i + 1))), (2, .int (nI (m9 + 1))), (4, .int (nI 1)), (0, .ref y), (1, .int (nI i0))]) hx hb d_p15m17_71 (by decide) hl rfl (by decide) rfl (fun ls hl => ?_)
          refine lv_goto (tgt := 9) hx hb d_p15m17_74 (by decide) ?_
          exact ih (i + 1) (m9 + 1) (by omega) (hor.2) (by rw [← hv, gm_mk_s (x := i) (m := m9) (b := 1) (by omega) (if_pos (by omega)) (by decide) q8]) (by omega) _ _ w ls (lv_sub hl [0, 1, 3, 4] rfl)
        · -- not taken: 64
          refine lv_iconst (v := -1) hx hb d_p15m17_64 (by decide) ?_
          refine W.eq (g2 := F0 m 65 ls [.int (pd_m none)]) rfl ?_
          exact pd_mret (v := none) X w ⟨by rw [← hv, gm_mk_n (b := 1) (by omega) (if_pos (by omega)) (Or.inr q8)], rfl⟩ (by decide) (by decide) d_p15m17_65
set_option maxHeartbeats 4000000 in
set_option maxRecDepth 100000 in
theorem c_Mod_marksOf (l : Launch) (G : pd_G) (h : pd_H) {y : Nat} {ad : Nat → Nat} {fv : Nat → Nat → Int32} {iv : Nat → Int32} {tl : Int64} {cs : List Nat} {nw i0 : Nat} {sA eA : Nat → Nat} (hMO : pd_MO G h y ad fv iv tl) (hL : gm_L fv iv cs) (hW : gm_W fv cs nw sA eA) (hiw : i0 < nw) : pd_M l y_Mod_marksOf prog_15_method_17_code 5 (some .int) rm_Mod_marksOf G h [.ref y, .int (nI i0)] pd_vm (fun r h1 => r = gm_mk cs (eA i0) (eA i0 - sA i0) (sA i0) 0 ∧ h = h1) := by
  refine pd_M.of (by decide) (Nat.le_of_ble_eq_true rfl) ?_
  intro p e s m below meth c X hmn w ls hl
  have hx := X.1
  have hb := X.2.1
  have hl : lv_has ls 5 [(0, .ref y), (1, .int (nI i0))] := hl
  have hz_y := hMO.2.1
  have hy0 : h y = some (20, .inr (10, [.ref (ad 0), .ref (ad 1), .ref (ad 2), .int (iv 3), .int (iv 4), .int (iv 5), .ref (ad 6), .ref (ad 7), .ref (ad 8), .ref (ad 9), .ref (ad 10), .ref (ad 11), .int (iv 12), .ref (ad 13), .ref (ad 14), .ref (ad 15), .ref (ad 16), .ref (ad 17), .ref (ad 18), .ref (ad 19), .int (iv 20), .ref (ad 21), .ref (ad 22), .ref (ad 23), .ref (ad 24), .ref (ad 25), .ref (ad 26), .ref (ad 27), .ref (ad 28), .int (iv 29), .ref (ad 30), .ref (ad 31), .int (iv 32), .int (iv 33), .int (iv 34), .int (iv 35), .long tl, .int (iv 37), .int (iv 38), .int (iv 39), .int (iv 40), .ref (ad 41), .ref (ad 42), .int (iv 43)])) := hMO.1
  have ha0 : h (ad 0) = some (30, .inl (.int, 60, .inl (fv 0))) := (hMO.2.2 0 (by decide)).1
  have ha1 : h (ad 1) = some (31, .inl (.int, 40, .inl (fv 1))) := (hMO.2.2 1 (by decide)).1
  have ha2 : h (ad 2) = some (32, .inl (.int, 40, .inl (fv 2))) := (hMO.2.2 2 (by decide)).1
  obtain ⟨hiv3, hln, hl60, hlc⟩ := id hL
  have hw31 := hW.1
  obtain ⟨hws, hwe, hwl, hwc⟩ := hW.2 i0 hiw
  refine lv_iconst (v := nI 0) hx hb d_p15m17_0 (by decide) ?_
  refine lv_istore_n (lv' := [(2, .int (nI 0)), (0, .ref y), (1, .int (nI i0))]) hx hb d_p15m17_1 rfl hl (by decide) rfl (fun ls hl => ?_)
  refine lv_aload_n hx hb d_p15m17_2 rfl (lv_at hl 1 rfl) ?_
  refine pd_get X w hy0 rfl 1 (by decide) mT_1140 rfl rfl d_p15m17_3 ?_
  refine lv_iload_n hx hb d_p15m17_6 rfl (lv_at hl 2 rfl) ?_
  refine pd_iald X w ha1 (by omega) (by omega) d_p15m17_7 ?_
  refine pd_top (v' := .int (nI (sA i0))) (congrArg Value.int hws) ?_
  refine lv_istore_n (lv' := [(3, .int (nI (sA i0))), (2, .int (nI 0)), (0, .ref y), (1, .int (nI i0))]) hx hb d_p15m17_8 rfl hl (by decide) rfl (fun ls hl => ?_)
  exact lp_Mod_marksOf_9 l G h hMO hL hW hiw X hmn (eA i0 + 1) (sA i0) 0 (by omega) (by omega) (rfl) (by omega) _ _ w ls (lv_sub hl [0, 1, 2, 3] rfl)
def gm_nm (cs : List Nat) (to n9 : Nat) : Nat → Nat → Nat → Option Nat
  | 0, _, v => some v
  | n + 1, x, v => if x < to then (if ¬ (48 ≤ cs.getD x 0 ∧ cs.getD x 0 ≤ 57) ∨ 3 < n9 then none else gm_nm cs to n9 n (x + 1) (10 * v + cs.getD x 0 - 48)) else some v
theorem gm_nm_s {cs : List Nat} {to n9 x v : Nat} (h : x < to) (hd : 48 ≤ cs.getD x 0 ∧ cs.getD x 0 ≤ 57) (h3 : n9 ≤ 3) : gm_nm cs to n9 (to - x) x v = gm_nm cs to n9 (to - (x + 1)) (x + 1) (10 * v + cs.getD x 0 - 48) := by
  rw [show to - x = (to - (x + 1)) + 1 by omega, gm_nm, if_pos h, if_neg (by omega)]
theorem gm_nm_n {cs : List Nat} {to n9 x v : Nat} (h : x < to) (hd : ¬ (48 ≤ cs.getD x 0 ∧ cs.getD x 0 ≤ 57) ∨ 3 < n9) : gm_nm cs to n9 (to - x) x v = none := by
  rw [show to - x = (to - (x + 1)) + 1 by omega, gm_nm, if_pos h, if_pos hd]
theorem gm_nm_e {cs : List Nat} {to n9 x v n : Nat} (h : ¬ x < to) : gm_nm cs to n9 n x v = some v := by
  cases n with
  | zero => rfl
  | succ n => rw [gm_nm, if_neg h]
def gm_num (cs : List Nat) (x to : Nat) : Option Nat := match gm_nm cs to (to - x) (to - x) x 0 with
  | none => none
  | some v => if 1 < to - x ∧ cs.getD x 0 = 48 then none else some v
theorem d_p15m18_0 : decode prog_15_method_18_code 0 = .ok (.iconst 0, 1) := by decide +kernel
theorem d_p15m18_1 : decode prog_15_method_18_code 1 = .ok (.istore_n 2, 1) := by decide +kernel
theorem d_p15m18_2 : decode prog_15_method_18_code 2 = .ok (.aload_n 0, 1) := by decide +kernel
theorem d_p15m18_3 : decode prog_15_method_18_code 3 = .ok (.getfield 16, 3) := by decide +kernel
theorem d_p15m18_6 : decode prog_15_method_18_code 6 = .ok (.iload_n 1, 1) := by decide +kernel
theorem d_p15m18_7 : decode prog_15_method_18_code 7 = .ok (.iaload, 1) := by decide +kernel
theorem d_p15m18_8 : decode prog_15_method_18_code 8 = .ok (.aload_n 0, 1) := by decide +kernel
theorem d_p15m18_9 : decode prog_15_method_18_code 9 = .ok (.getfield 13, 3) := by decide +kernel
theorem d_p15m18_12 : decode prog_15_method_18_code 12 = .ok (.iload_n 1, 1) := by decide +kernel
theorem d_p15m18_13 : decode prog_15_method_18_code 13 = .ok (.iaload, 1) := by decide +kernel
theorem d_p15m18_14 : decode prog_15_method_18_code 14 = .ok (.isub, 1) := by decide +kernel
theorem d_p15m18_15 : decode prog_15_method_18_code 15 = .ok (.istore_n 3, 1) := by decide +kernel
theorem d_p15m18_16 : decode prog_15_method_18_code 16 = .ok (.aload_n 0, 1) := by decide +kernel
theorem d_p15m18_17 : decode prog_15_method_18_code 17 = .ok (.getfield 13, 3) := by decide +kernel
theorem d_p15m18_20 : decode prog_15_method_18_code 20 = .ok (.iload_n 1, 1) := by decide +kernel
theorem d_p15m18_21 : decode prog_15_method_18_code 21 = .ok (.iaload, 1) := by decide +kernel
theorem d_p15m18_22 : decode prog_15_method_18_code 22 = .ok (.istore 4, 2) := by decide +kernel
theorem d_p15m18_24 : decode prog_15_method_18_code 24 = .ok (.iload 4, 2) := by decide +kernel
theorem d_p15m18_26 : decode prog_15_method_18_code 26 = .ok (.aload_n 0, 1) := by decide +kernel
theorem d_p15m18_27 : decode prog_15_method_18_code 27 = .ok (.getfield 16, 3) := by decide +kernel
theorem d_p15m18_30 : decode prog_15_method_18_code 30 = .ok (.iload_n 1, 1) := by decide +kernel
theorem d_p15m18_31 : decode prog_15_method_18_code 31 = .ok (.iaload, 1) := by decide +kernel
theorem d_p15m18_32 : decode prog_15_method_18_code 32 = .ok (.if_icmp .ge 49, 3) := by decide +kernel
theorem d_p15m18_35 : decode prog_15_method_18_code 35 = .ok (.aload_n 0, 1) := by decide +kernel
theorem d_p15m18_36 : decode prog_15_method_18_code 36 = .ok (.getfield 7, 3) := by decide +kernel
theorem d_p15m18_39 : decode prog_15_method_18_code 39 = .ok (.iload 4, 2) := by decide +kernel
theorem d_p15m18_41 : decode prog_15_method_18_code 41 = .ok (.iaload, 1) := by decide +kernel
theorem d_p15m18_42 : decode prog_15_method_18_code 42 = .ok (.bipush 48, 2) := by decide +kernel
theorem d_p15m18_44 : decode prog_15_method_18_code 44 = .ok (.bipush 57, 2) := by decide +kernel
theorem d_p15m18_46 : decode prog_15_method_18_code 46 = .ok (.invokestatic 109, 3) := by decide +kernel
theorem d_p15m18_49 : decode prog_15_method_18_code 49 = .ok (.ifCond .eq 8, 3) := by decide +kernel
theorem d_p15m18_52 : decode prog_15_method_18_code 52 = .ok (.iload_n 3, 1) := by decide +kernel
theorem d_p15m18_53 : decode prog_15_method_18_code 53 = .ok (.iconst 3, 1) := by decide +kernel
theorem d_p15m18_54 : decode prog_15_method_18_code 54 = .ok (.if_icmp .le 5, 3) := by decide +kernel
theorem d_p15m18_57 : decode prog_15_method_18_code 57 = .ok (.iconst (-1), 1) := by decide +kernel
theorem d_p15m18_58 : decode prog_15_method_18_code 58 = .ok (.ireturn, 1) := by decide +kernel
theorem d_p15m18_59 : decode prog_15_method_18_code 59 = .ok (.bipush 10, 2) := by decide +kernel
theorem d_p15m18_61 : decode prog_15_method_18_code 61 = .ok (.iload_n 2, 1) := by decide +kernel
theorem d_p15m18_62 : decode prog_15_method_18_code 62 = .ok (.imul, 1) := by decide +kernel
theorem d_p15m18_63 : decode prog_15_method_18_code 63 = .ok (.aload_n 0, 1) := by decide +kernel
theorem d_p15m18_64 : decode prog_15_method_18_code 64 = .ok (.getfield 7, 3) := by decide +kernel
theorem d_p15m18_67 : decode prog_15_method_18_code 67 = .ok (.iload 4, 2) := by decide +kernel
theorem d_p15m18_69 : decode prog_15_method_18_code 69 = .ok (.iaload, 1) := by decide +kernel
theorem d_p15m18_70 : decode prog_15_method_18_code 70 = .ok (.iadd, 1) := by decide +kernel
theorem d_p15m18_71 : decode prog_15_method_18_code 71 = .ok (.bipush 48, 2) := by decide +kernel
theorem d_p15m18_73 : decode prog_15_method_18_code 73 = .ok (.isub, 1) := by decide +kernel
theorem d_p15m18_74 : decode prog_15_method_18_code 74 = .ok (.istore_n 2, 1) := by decide +kernel
theorem d_p15m18_75 : decode prog_15_method_18_code 75 = .ok (.iinc 4 1, 3) := by decide +kernel
theorem d_p15m18_78 : decode prog_15_method_18_code 78 = .ok (.goto (-54), 3) := by decide +kernel
theorem d_p15m18_81 : decode prog_15_method_18_code 81 = .ok (.iload_n 3, 1) := by decide +kernel
theorem d_p15m18_82 : decode prog_15_method_18_code 82 = .ok (.iconst 1, 1) := by decide +kernel
theorem d_p15m18_83 : decode prog_15_method_18_code 83 = .ok (.if_icmp .le 23, 3) := by decide +kernel
theorem d_p15m18_86 : decode prog_15_method_18_code 86 = .ok (.aload_n 0, 1) := by decide +kernel
theorem d_p15m18_87 : decode prog_15_method_18_code 87 = .ok (.getfield 7, 3) := by decide +kernel
theorem d_p15m18_90 : decode prog_15_method_18_code 90 = .ok (.aload_n 0, 1) := by decide +kernel
theorem d_p15m18_91 : decode prog_15_method_18_code 91 = .ok (.getfield 13, 3) := by decide +kernel
theorem d_p15m18_94 : decode prog_15_method_18_code 94 = .ok (.iload_n 1, 1) := by decide +kernel
theorem d_p15m18_95 : decode prog_15_method_18_code 95 = .ok (.iaload, 1) := by decide +kernel
theorem d_p15m18_96 : decode prog_15_method_18_code 96 = .ok (.iaload, 1) := by decide +kernel
theorem d_p15m18_97 : decode prog_15_method_18_code 97 = .ok (.bipush 48, 2) := by decide +kernel
theorem d_p15m18_99 : decode prog_15_method_18_code 99 = .ok (.if_icmp .ne 7, 3) := by decide +kernel
theorem d_p15m18_102 : decode prog_15_method_18_code 102 = .ok (.iconst (-1), 1) := by decide +kernel
theorem d_p15m18_103 : decode prog_15_method_18_code 103 = .ok (.goto 4, 3) := by decide +kernel
theorem d_p15m18_106 : decode prog_15_method_18_code 106 = .ok (.iload_n 2, 1) := by decide +kernel
theorem d_p15m18_107 : decode prog_15_method_18_code 107 = .ok (.ireturn, 1) := by decide +kernel
abbrev y_Mod_numberOf : MethodName := ⟨"PolicyDeskModel", "numberOf", "(I)I"⟩
theorem ok_Mod_numberOf : pd_ok y_Mod_numberOf prog_15_method_18_code 5 (some .int) 1 := ⟨mT_1382, mT_21, by decide, by decide +kernel⟩
abbrev rm_Mod_numberOf : Room := { frames := 1, cells := 0, slots := 0, locals := 22 }
set_option maxHeartbeats 4000000 in
set_option maxRecDepth 100000 in
theorem lp_Mod_numberOf_24 (l : Launch) (G : pd_G) (h : pd_H) {y : Nat} {ad : Nat → Nat} {fv : Nat → Nat → Int32} {iv : Nat → Int32} {tl : Int64} {cs : List Nat} {nw i0 : Nat} {sA eA : Nat → Nat} (hMO : pd_MO G h y ad fv iv tl) (hL : gm_L fv iv cs) (hW : gm_W fv cs nw sA eA) (hiw : i0 < nw) {p : Program} {e : Env} {s : State} {m : MethodId} {below : List Frame} {meth : Method} {c : Code} (X : pd_B p s m [.ref y, .int (nI i0)].toArray meth c G y_Mod_numberOf.cls prog_15_method_18_code 5 (some .int)) (hmn : meth.name = y_Mod_numberOf.name) :
    ∀ (kk9 : Nat) (i : Nat) (v9 : Nat), (sA i0 ≤ i ∧ i ≤ eA i0) → (gm_nm cs (eA i0) (eA i0 - sA i0) (eA i0 - i) i v9 = gm_nm cs (eA i0) (eA i0 - sA i0) (eA i0 - sA i0) (sA i0) 0) → eA i0 - i < kk9 → ∀ (H : Heap) (locs : List Loc), pd_w G s H locs h → ∀ ls : Array Slot, lv_has ls 5 [(4, .int (nI i)), (2, .int (nI v9)), (3, .int (nI (eA i0 - sA i0))), (0, .ref y), (1, .int (nI i0))] → W p l e rm_Mod_numberOf s m [.ref y, .int (nI i0)].toArray below meth c H locs 0 0 (MQ below (pd_Q G pd_vm (fun r h1 => r = gm_num cs (sA i0) (eA i0) ∧ h = h1)) [.ref y, .int (nI i0)].toArray s rm_Mod_numberOf.cells rm_Mod_numberOf.slots (fun q => G.2.1 ≤ q)) (F0 m 24 ls []) := by
  have hx := X.1
  have hb := X.2.1
  have hz_y := hMO.2.1
  have hy0 : h y = some (20, .inr (10, [.ref (ad 0), .ref (ad 1), .ref (ad 2), .int (iv 3), .int (iv 4), .int (iv 5), .ref (ad 6), .ref (ad 7), .ref (ad 8), .ref (ad 9), .ref (ad 10), .ref (ad 11), .int (iv 12), .ref (ad 13), .ref (ad 14), .ref (ad 15), .ref (ad 16), .ref (ad 17), .ref (ad 18), .ref (ad 19), .int (iv 20), .ref (ad 21), .ref (ad 22), .ref (ad 23), .ref (ad 24), .ref (ad 25), .ref (ad 26), .ref (ad 27), .ref (ad 28), .int (iv 29), .ref (ad 30), .ref (ad 31), .int (iv 32), .int (iv 33), .int (iv 34), .int (iv 35), .long tl, .int (iv 37), .int (iv 38), .int (iv 39), .int (iv 40), .ref (ad 41), .ref (ad 42), .int (iv 43)])) := hMO.1
  have ha0 : h (ad 0) = some (30, .inl (.int, 60, .inl (fv 0))) := (hMO.2.2 0 (by decide)).1
  have ha1 : h (ad 1) = some (31, .inl (.int, 40, .inl (fv 1))) := (hMO.2.2 1 (by decide)).1
  have ha2 : h (ad 2) = some (32, .inl (.int, 40, .inl (fv 2))) := (hMO.2.2 2 (by decide)).1
  obtain ⟨hiv3, hln, hl60, hlc⟩ := id hL
  have hw31 := hW.1
  obtain ⟨hws, hwe, hwl, hwc⟩ := hW.2 i0 hiw
  intro kk9
  induction kk9 with
  | zero => intros; omega
  | succ kk9 ih =>
    intro i v9 hi hv hmu H locs w ls hl
    refine lv_iload hx hb d_p15m18_24 (lv_at hl 0 rfl) ?_
    refine lv_aload_n hx hb d_p15m18_26 rfl (lv_at hl 3 rfl) ?_
    refine pd_get X w hy0 rfl 2 (by decide) mT_1141 rfl rfl d_p15m18_27 ?_
    refine lv_iload_n hx hb d_p15m18_30 rfl (lv_at hl 4 rfl) ?_
    refine pd_iald X w ha2 (by omega) (by omega) d_p15m18_31 ?_
    refine pd_top (v' := .int (nI (eA i0))) (congrArg Value.int hwe) ?_
    refine pd_jge (tgt := 81) hx hb d_p15m18_32 (by decide) (by omega) (by omega) (fun q1 => ?_) (fun q1 => ?_)
    · -- taken: 81
      refine lv_iload_n hx hb d_p15m18_81 rfl (lv_at hl 2 rfl) ?_
      refine lv_iconst (v := nI 1) hx hb d_p15m18_82 (by decide) ?_
      refine pd_jle (tgt := 106) hx hb d_p15m18_83 (by decide) (by omega) (by omega) (fun q2 => ?_) (fun q2 => ?_)
      · -- taken: 106
        refine lv_iload_n hx hb d_p15m18_106 rfl (lv_at hl 1 rfl) ?_
        refine W.eq (g2 := F0 m 107 ls [.int (pd_m (some v9))]) rfl ?_
        exact pd_mret (v := (some v9)) X w ⟨by unfold gm_num; rw [← hv, gm_nm_e (by omega)]; exact (if_neg (by omega)).symm, rfl⟩ (by decide) (by decide) d_p15m18_107
      · -- not taken: 86
        refine lv_aload_n hx hb d_p15m18_86 rfl (lv_at hl 3 rfl) ?_
        refine pd_get X w hy0 rfl 0 (by decide) mT_1139 rfl rfl d_p15m18_87 ?_
        refine lv_aload_n hx hb d_p15m18_90 rfl (lv_at hl 3 rfl) ?_
        refine pd_get X w hy0 rfl 1 (by decide) mT_1140 rfl rfl d_p15m18_91 ?_
        refine lv_iload_n hx hb d_p15m18_94 rfl (lv_at hl 4 rfl) ?_
        refine pd_iald X w ha1 (by omega) (by omega) d_p15m18_95 ?_
        refine pd_top (v' := .int (nI (sA i0))) (congrArg Value.int hws) ?_
        refine pd_iald X w ha0 (by omega) (by omega) d_p15m18_96 ?_
        refine pd_top (v' := .int (nI (cs.getD (sA i0) 0))) (congrArg Value.int (hln _ (by omega))) ?_
        have := tx_lt hlc (sA i0)
        refine lv_bipush (v := nI 48) hx hb d_p15m18_97 (by decide) ?_
        refine pd_jne (tgt := 106) hx hb d_p15m18_99 (by decide) (by omega) (by omega) (fun q3 => ?_) (fun q3 => ?_)
        · -- taken: 106
          refine lv_iload_n hx hb d_p15m18_106 rfl (lv_at hl 1 rfl) ?_
          refine W.eq (g2 := F0 m 107 ls [.int (pd_m (some v9))]) rfl ?_
          exact pd_mret (v := (some v9)) X w ⟨by unfold gm_num; rw [← hv, gm_nm_e (by omega)]; exact (if_neg (by omega)).symm, rfl⟩ (by decide) (by decide) d_p15m18_107
        · -- not taken: 102
          refine lv_iconst (v := -1) hx hb d_p15m18_102 (by decide) ?_
          refine lv_goto (tgt := 107) hx hb d_p15m18_103 (by decide) ?_
          refine W.eq (g2 := F0 m 107 ls [.int (pd_m none)]) rfl ?_
          exact pd_mret (v := none) X w ⟨by unfold gm_num; rw [← hv, gm_nm_e (by omega)]; exact (if_pos (by omega)).symm, rfl⟩ (by decide) (by decide) d_p15m18_107
    · -- not taken: 35
      refine lv_aload_n hx hb d_p15m18_35 rfl (lv_at hl 3 rfl) ?_
      refine pd_get X w hy0 rfl 0 (by decide) mT_1139 rfl rfl d_p15m18_36 ?_
      refine lv_iload hx hb d_p15m18_39 (lv_at hl 0 rfl) ?_
      refine pd_iald X w ha0 (by omega) (by omega) d_p15m18_41 ?_
      refine pd_top (v' := .int (nI (cs.getD i 0))) (congrArg Value.int (hln _ (by omega))) ?_
      have := tx_lt hlc i
      refine lv_bipush (v := nI 48) hx hb d_p15m18_42 (by decide) ?_
      refine lv_bipush (v := nI 57) hx hb d_p15m18_44 (by decide) ?_
      refine pd_cS (As := [.int (nI (cs.getD i 0)), .int (nI 48), .int (nI 57)]) (rest := []) X w (c_Mod_in l G h (by omega) (by omega) (by omega)) ok_Mod_in mT_1278 mT_1277 ⟨by decide, by decide⟩ rfl hl.1 rfl (Nat.le_of_ble_eq_true rfl) d_p15m18_46 ⟨by decide, by decide⟩ (fun r4 h5 H locs hp6 w => ?_)
      refine W.widen (k := 0) (n := 0) (by decide) (by decide) ?_
      obtain ⟨e7, rfl⟩ := hp6
      refine pd_beq (tgt := 57) hx hb d_p15m18_49 (by decide) (fun q8 => ?_) (fun q8 => ?_)
      · -- taken: 57
        refine lv_iconst (v := -1) hx hb d_p15m18_57 (by decide) ?_
        refine W.eq (g2 := F0 m 58 ls [.int (pd_m none)]) rfl ?_
        exact pd_mret (v := none) X w ⟨by unfold gm_num; rw [← hv, gm_nm_n (by omega) (Or.inl (of_decide_eq_false (e7.symm.trans q8)))], rfl⟩ (by decide) (by decide) d_p15m18_58
      · -- not taken: 52
        refine lv_iload_n hx hb d_p15m18_52 rfl (lv_at hl 2 rfl) ?_
        refine lv_iconst (v := nI 3) hx hb d_p15m18_53 (by decide) ?_
        refine pd_jle (tgt := 59) hx hb d_p15m18_54 (by decide) (by omega) (by omega) (fun q9 => ?_) (fun q9 => ?_)
        · -- taken: 59
          have hd9 := of_decide_eq_true (e7.symm.trans q8)
          refine lv_bipush (v := nI 10) hx hb d_p15m18_59 (by decide) ?_
          refine lv_iload_n hx hb d_p15m18_61 rfl (lv_at hl 1 rfl) ?_
          refine pd_imul hx hb d_p15m18_62 ?_
          refine lv_aload_n hx hb d_p15m18_63 rfl (lv_at hl 3 rfl) ?_
          refine pd_get X w hy0 rfl 0 (by decide) mT_1139 rfl rfl d_p15m18_64 ?_
          refine lv_iload hx hb d_p15m18_67 (lv_at hl 0 rfl) ?_
          refine pd_iald X w ha0 (by omega) (by omega) d_p15m18_69 ?_
          refine pd_top (v' := .int (nI (cs.getD i 0))) (congrArg Value.int (hln _ (by omega))) ?_
          have := tx_lt hlc i
          refine pd_iadd hx hb d_p15m18_70 ?_
          refine lv_bipush (v := nI 48) hx hb d_p15m18_71 (by decide) ?_
          refine pd_isub hx hb d_p15m18_73 (by omega) ?_
          refine lv_istore_n (lv' := [(2, .int (nI (((10 * v9) + (cs.getD i 0)) - 48))), (4, .int (nI i)), (3, .int (nI (eA i0 - sA i0))), (0, .ref y), (1, .int (nI i0))]) hx hb d_p15m18_74 rfl hl (by decide) rfl (fun ls hl => ?_)
          refine pd_iinc (k := 1) (d := 1) (lv' := [(4, .int (nI (i + 1))), (2, .int (nI (((10 * v9) + (cs.getD i 0)) - 48))), (3, .int (nI (eA i0 - sA i0))), (0, .ref y), (1, .int (nI i0))]) hx hb d_p15m18_75 (by decide) hl rfl (by decide) rfl (fun ls hl => ?_)
          refine lv_goto (tgt := 24) hx hb d_p15m18_78 (by decide) ?_
          exact ih (i + 1) (((10 * v9) + (cs.getD i 0)) - 48) (by omega) (by rw [← hv, gm_nm_s (x := i) (v := v9) (by omega) hd9 (by omega)]) (by omega) _ _ w ls (lv_sub hl [0, 1, 2, 3, 4] rfl)
        · -- not taken: 57
          refine lv_iconst (v := -1) hx hb d_p15m18_57 (by decide) ?_
          refine W.eq (g2 := F0 m 58 ls [.int (pd_m none)]) rfl ?_
          exact pd_mret (v := none) X w ⟨by unfold gm_num; rw [← hv, gm_nm_n (by omega) (Or.inr (by omega))], rfl⟩ (by decide) (by decide) d_p15m18_58
set_option maxHeartbeats 4000000 in
set_option maxRecDepth 100000 in
theorem c_Mod_numberOf (l : Launch) (G : pd_G) (h : pd_H) {y : Nat} {ad : Nat → Nat} {fv : Nat → Nat → Int32} {iv : Nat → Int32} {tl : Int64} {cs : List Nat} {nw i0 : Nat} {sA eA : Nat → Nat} (hMO : pd_MO G h y ad fv iv tl) (hL : gm_L fv iv cs) (hW : gm_W fv cs nw sA eA) (hiw : i0 < nw) : pd_M l y_Mod_numberOf prog_15_method_18_code 5 (some .int) rm_Mod_numberOf G h [.ref y, .int (nI i0)] pd_vm (fun r h1 => r = gm_num cs (sA i0) (eA i0) ∧ h = h1) := by
  refine pd_M.of (by decide) (Nat.le_of_ble_eq_true rfl) ?_
  intro p e s m below meth c X hmn w ls hl
  have hx := X.1
  have hb := X.2.1
  have hl : lv_has ls 5 [(0, .ref y), (1, .int (nI i0))] := hl
  have hz_y := hMO.2.1
  have hy0 : h y = some (20, .inr (10, [.ref (ad 0), .ref (ad 1), .ref (ad 2), .int (iv 3), .int (iv 4), .int (iv 5), .ref (ad 6), .ref (ad 7), .ref (ad 8), .ref (ad 9), .ref (ad 10), .ref (ad 11), .int (iv 12), .ref (ad 13), .ref (ad 14), .ref (ad 15), .ref (ad 16), .ref (ad 17), .ref (ad 18), .ref (ad 19), .int (iv 20), .ref (ad 21), .ref (ad 22), .ref (ad 23), .ref (ad 24), .ref (ad 25), .ref (ad 26), .ref (ad 27), .ref (ad 28), .int (iv 29), .ref (ad 30), .ref (ad 31), .int (iv 32), .int (iv 33), .int (iv 34), .int (iv 35), .long tl, .int (iv 37), .int (iv 38), .int (iv 39), .int (iv 40), .ref (ad 41), .ref (ad 42), .int (iv 43)])) := hMO.1
  have ha0 : h (ad 0) = some (30, .inl (.int, 60, .inl (fv 0))) := (hMO.2.2 0 (by decide)).1
  have ha1 : h (ad 1) = some (31, .inl (.int, 40, .inl (fv 1))) := (hMO.2.2 1 (by decide)).1
  have ha2 : h (ad 2) = some (32, .inl (.int, 40, .inl (fv 2))) := (hMO.2.2 2 (by decide)).1
  obtain ⟨hiv3, hln, hl60, hlc⟩ := id hL
  have hw31 := hW.1
  obtain ⟨hws, hwe, hwl, hwc⟩ := hW.2 i0 hiw
  refine lv_iconst (v := nI 0) hx hb d_p15m18_0 (by decide) ?_
  refine lv_istore_n (lv' := [(2, .int (nI 0)), (0, .ref y), (1, .int (nI i0))]) hx hb d_p15m18_1 rfl hl (by decide) rfl (fun ls hl => ?_)
  refine lv_aload_n hx hb d_p15m18_2 rfl (lv_at hl 1 rfl) ?_
  refine pd_get X w hy0 rfl 2 (by decide) mT_1141 rfl rfl d_p15m18_3 ?_
  refine lv_iload_n hx hb d_p15m18_6 rfl (lv_at hl 2 rfl) ?_
  refine pd_iald X w ha2 (by omega) (by omega) d_p15m18_7 ?_
  refine pd_top (v' := .int (nI (eA i0))) (congrArg Value.int hwe) ?_
  refine lv_aload_n hx hb d_p15m18_8 rfl (lv_at hl 1 rfl) ?_
  refine pd_get X w hy0 rfl 1 (by decide) mT_1140 rfl rfl d_p15m18_9 ?_
  refine lv_iload_n hx hb d_p15m18_12 rfl (lv_at hl 2 rfl) ?_
  refine pd_iald X w ha1 (by omega) (by omega) d_p15m18_13 ?_
  refine pd_top (v' := .int (nI (sA i0))) (congrArg Value.int hws) ?_
  refine pd_isub hx hb d_p15m18_14 (by omega) ?_
  refine lv_istore_n (lv' := [(3, .int (nI ((eA i0) - (sA i0)))), (2, .int (nI 0)), (0, .ref y), (1, .int (nI i0))]) hx hb d_p15m18_15 rfl hl (by decide) rfl (fun ls hl => ?_)
  refine lv_aload_n hx hb d_p15m18_16 rfl (lv_at hl 2 rfl) ?_
  refine pd_get X w hy0 rfl 1 (by decide) mT_1140 rfl rfl d_p15m18_17 ?_
  refine lv_iload_n hx hb d_p15m18_20 rfl (lv_at hl 3 rfl) ?_
  refine pd_iald X w ha1 (by omega) (by omega) d_p15m18_21 ?_
  refine pd_top (v' := .int (nI (sA i0))) (congrArg Value.int hws) ?_
  refine lv_istore (lv' := [(4, .int (nI (sA i0))), (3, .int (nI ((eA i0) - (sA i0)))), (2, .int (nI 0)), (0, .ref y), (1, .int (nI i0))]) hx hb d_p15m18_22 hl (by decide) rfl (fun ls hl => ?_)
  exact lp_Mod_numberOf_24 l G h hMO hL hW hiw X hmn (eA i0 + 1) (sA i0) 0 (by omega) (rfl) (by omega) _ _ w ls (lv_sub hl [0, 2, 1, 3, 4] rfl)
def gm_oc (wd : Int64) (k : Nat) : Nat := (wd >>> ((nI (8 * k)).toInt64 &&& 63)).toBitVec.toNat % 256
def gm_is (cs : List Nat) (x to : Nat) (wd : Int64) (nn : Nat) : Bool := decide (to - x = nn) && (List.range nn).all (fun k => decide (cs.getD (x + k) 0 = gm_oc wd k))
theorem gm_is_n {cs : List Nat} {x to nn : Nat} {wd : Int64} (h : ¬ to - x = nn) : gm_is cs x to wd nn = false := by
  unfold gm_is
  rw [decide_eq_false h]
  rfl
theorem gm_is_k {cs : List Nat} {x to nn k : Nat} {wd : Int64} (hk : k < nn) (h : ¬ cs.getD (x + k) 0 = gm_oc wd k) : gm_is cs x to wd nn = false := by
  unfold gm_is
  rw [Bool.and_eq_false_iff]
  refine Or.inr (List.all_eq_false.mpr ⟨k, List.mem_range.mpr hk, ?_⟩)
  rw [decide_eq_false h]
  decide
theorem gm_is_y {cs : List Nat} {x to nn : Nat} {wd : Int64} (h0 : to - x = nn) (h : ∀ k, k < nn → cs.getD (x + k) 0 = gm_oc wd k) : gm_is cs x to wd nn = true := by
  unfold gm_is
  rw [decide_eq_true h0, Bool.true_and, List.all_eq_true]
  intro k hk
  exact decide_eq_true (h k (List.mem_range.mp hk))
theorem gm_oc_lt (wd : Int64) (k : Nat) : gm_oc wd k < 256 := Nat.mod_lt _ (by decide)
theorem d_p15m7_0 : decode prog_15_method_7_code 0 = .ok (.aload_n 0, 1) := by decide +kernel
theorem d_p15m7_1 : decode prog_15_method_7_code 1 = .ok (.getfield 16, 3) := by decide +kernel
theorem d_p15m7_4 : decode prog_15_method_7_code 4 = .ok (.iload_n 1, 1) := by decide +kernel
theorem d_p15m7_5 : decode prog_15_method_7_code 5 = .ok (.iaload, 1) := by decide +kernel
theorem d_p15m7_6 : decode prog_15_method_7_code 6 = .ok (.aload_n 0, 1) := by decide +kernel
theorem d_p15m7_7 : decode prog_15_method_7_code 7 = .ok (.getfield 13, 3) := by decide +kernel
theorem d_p15m7_10 : decode prog_15_method_7_code 10 = .ok (.iload_n 1, 1) := by decide +kernel
theorem d_p15m7_11 : decode prog_15_method_7_code 11 = .ok (.iaload, 1) := by decide +kernel
theorem d_p15m7_12 : decode prog_15_method_7_code 12 = .ok (.isub, 1) := by decide +kernel
theorem d_p15m7_13 : decode prog_15_method_7_code 13 = .ok (.iload 4, 2) := by decide +kernel
theorem d_p15m7_15 : decode prog_15_method_7_code 15 = .ok (.if_icmp .eq 5, 3) := by decide +kernel
theorem d_p15m7_18 : decode prog_15_method_7_code 18 = .ok (.iconst 0, 1) := by decide +kernel
theorem d_p15m7_19 : decode prog_15_method_7_code 19 = .ok (.ireturn, 1) := by decide +kernel
theorem d_p15m7_20 : decode prog_15_method_7_code 20 = .ok (.iconst 0, 1) := by decide +kernel
theorem d_p15m7_21 : decode prog_15_method_7_code 21 = .ok (.istore 5, 2) := by decide +kernel
theorem d_p15m7_23 : decode prog_15_method_7_code 23 = .ok (.iload 5, 2) := by decide +kernel
theorem d_p15m7_25 : decode prog_15_method_7_code 25 = .ok (.iload 4, 2) := by decide +kernel
theorem d_p15m7_27 : decode prog_15_method_7_code 27 = .ok (.if_icmp .ge 40, 3) := by decide +kernel
theorem d_p15m7_30 : decode prog_15_method_7_code 30 = .ok (.aload_n 0, 1) := by decide +kernel
theorem d_p15m7_31 : decode prog_15_method_7_code 31 = .ok (.getfield 7, 3) := by decide +kernel
theorem d_p15m7_34 : decode prog_15_method_7_code 34 = .ok (.aload_n 0, 1) := by decide +kernel
theorem d_p15m7_35 : decode prog_15_method_7_code 35 = .ok (.getfield 13, 3) := by decide +kernel
theorem d_p15m7_38 : decode prog_15_method_7_code 38 = .ok (.iload_n 1, 1) := by decide +kernel
theorem d_p15m7_39 : decode prog_15_method_7_code 39 = .ok (.iaload, 1) := by decide +kernel
theorem d_p15m7_40 : decode prog_15_method_7_code 40 = .ok (.iload 5, 2) := by decide +kernel
theorem d_p15m7_42 : decode prog_15_method_7_code 42 = .ok (.iadd, 1) := by decide +kernel
theorem d_p15m7_43 : decode prog_15_method_7_code 43 = .ok (.iaload, 1) := by decide +kernel
theorem d_p15m7_44 : decode prog_15_method_7_code 44 = .ok (.lload_n 2, 1) := by decide +kernel
theorem d_p15m7_45 : decode prog_15_method_7_code 45 = .ok (.bipush 8, 2) := by decide +kernel
theorem d_p15m7_47 : decode prog_15_method_7_code 47 = .ok (.iload 5, 2) := by decide +kernel
theorem d_p15m7_49 : decode prog_15_method_7_code 49 = .ok (.imul, 1) := by decide +kernel
theorem d_p15m7_50 : decode prog_15_method_7_code 50 = .ok (.lshr, 1) := by decide +kernel
theorem d_p15m7_51 : decode prog_15_method_7_code 51 = .ok (.ldc2_w 107, 3) := by decide +kernel
theorem d_p15m7_54 : decode prog_15_method_7_code 54 = .ok (.land, 1) := by decide +kernel
theorem d_p15m7_55 : decode prog_15_method_7_code 55 = .ok (.l2i, 1) := by decide +kernel
theorem d_p15m7_56 : decode prog_15_method_7_code 56 = .ok (.if_icmp .eq 5, 3) := by decide +kernel
theorem d_p15m7_59 : decode prog_15_method_7_code 59 = .ok (.iconst 0, 1) := by decide +kernel
theorem d_p15m7_60 : decode prog_15_method_7_code 60 = .ok (.ireturn, 1) := by decide +kernel
theorem d_p15m7_61 : decode prog_15_method_7_code 61 = .ok (.iinc 5 1, 3) := by decide +kernel
theorem d_p15m7_64 : decode prog_15_method_7_code 64 = .ok (.goto (-41), 3) := by decide +kernel
theorem d_p15m7_67 : decode prog_15_method_7_code 67 = .ok (.iconst 1, 1) := by decide +kernel
theorem d_p15m7_68 : decode prog_15_method_7_code 68 = .ok (.ireturn, 1) := by decide +kernel
abbrev y_Mod_is : MethodName := ⟨"PolicyDeskModel", "is", "(IJI)Z"⟩
theorem ok_Mod_is : pd_ok y_Mod_is prog_15_method_7_code 6 (some .boolean) 3 := ⟨mT_1300, mT_21, by decide, by decide +kernel⟩
abbrev rm_Mod_is : Room := { frames := 0, cells := 0, slots := 0, locals := 0 }
set_option maxHeartbeats 4000000 in
set_option maxRecDepth 100000 in
theorem lp_Mod_is_23 (l : Launch) (G : pd_G) (h : pd_H) {y : Nat} {ad : Nat → Nat} {fv : Nat → Nat → Int32} {iv : Nat → Int32} {tl : Int64} {cs : List Nat} {nw i0 : Nat} {sA eA : Nat → Nat} {wd : Int64} {nn : Nat} (hMO : pd_MO G h y ad fv iv tl) (hL : gm_L fv iv cs) (hW : gm_W fv cs nw sA eA) (hiw : i0 < nw) (hnn : nn ≤ 9) {p : Program} {e : Env} {s : State} {m : MethodId} {below : List Frame} {meth : Method} {c : Code} (X : pd_B p s m [.ref y, .int (nI i0), .long wd, .int (nI nn)].toArray meth c G y_Mod_is.cls prog_15_method_7_code 6 (some .boolean)) (hmn : meth.name = y_Mod_is.name) :
    ∀ (kk9 : Nat) (i : Nat), (eA i0 - sA i0 = nn) → (i ≤ nn) → (∀ k, k < i → cs.getD (sA i0 + k) 0 = gm_oc wd k) → nn - i < kk9 → ∀ (H : Heap) (locs : List Loc), pd_w G s H locs h → ∀ ls : Array Slot, lv_has ls 6 [(5, .int (nI i)), (0, .ref y), (1, .int (nI i0)), (2, .long wd), (4, .int (nI nn))] → W p l e rm_Mod_is s m [.ref y, .int (nI i0), .long wd, .int (nI nn)].toArray below meth c H locs 0 0 (MQ below (pd_Q G pd_vb (fun r h1 => r = gm_is cs (sA i0) (eA i0) wd nn ∧ h = h1)) [.ref y, .int (nI i0), .long wd, .int (nI nn)].toArray s rm_Mod_is.cells rm_Mod_is.slots (fun q => G.2.1 ≤ q)) (F0 m 23 ls []) := by
  have hx := X.1
  have hb := X.2.1
  have hz_y := hMO.2.1
  have hy0 : h y = some (20, .inr (10, [.ref (ad 0), .ref (ad 1), .ref (ad 2), .int (iv 3), .int (iv 4), .int (iv 5), .ref (ad 6), .ref (ad 7), .ref (ad 8), .ref (ad 9), .ref (ad 10), .ref (ad 11), .int (iv 12), .ref (ad 13), .ref (ad 14), .ref (ad 15), .ref (ad 16), .ref (ad 17), .ref (ad 18), .ref (ad 19), .int (iv 20), .ref (ad 21), .ref (ad 22), .ref (ad 23), .ref (ad 24), .ref (ad 25), .ref (ad 26), .ref (ad 27), .ref (ad 28), .int (iv 29), .ref (ad 30), .ref (ad 31), .int (iv 32), .int (iv 33), .int (iv 34), .int (iv 35), .long tl, .int (iv 37), .int (iv 38), .int (iv 39), .int (iv 40), .ref (ad 41), .ref (ad 42), .int (iv 43)])) := hMO.1
  have ha0 : h (ad 0) = some (30, .inl (.int, 60, .inl (fv 0))) := (hMO.2.2 0 (by decide)).1
  have ha1 : h (ad 1) = some (31, .inl (.int, 40, .inl (fv 1))) := (hMO.2.2 1 (by decide)).1
  have ha2 : h (ad 2) = some (32, .inl (.int, 40, .inl (fv 2))) := (hMO.2.2 2 (by decide)).1
  obtain ⟨hiv3, hln, hl60, hlc⟩ := id hL
  have hw31 := hW.1
  obtain ⟨hws, hwe, hwl, hwc⟩ := hW.2 i0 hiw
  intro kk9
  induction kk9 with
  | zero => intros; omega
  | succ kk9 ih =>
    intro i hn9 hi hj hmu H locs w ls hl
    refine lv_iload hx hb d_p15m7_23 (lv_at hl 0 rfl) ?_
    refine lv_iload hx hb d_p15m7_25 (lv_at hl 4 rfl) ?_
    refine pd_jge (tgt := 67) hx hb d_p15m7_27 (by decide) (by omega) (by omega) (fun q1 => ?_) (fun q1 => ?_)
    · -- taken: 67
      refine lv_iconst (v := nI 1) hx hb d_p15m7_67 (by decide) ?_
      refine W.eq (g2 := F0 m 68 ls [.int (pd_b true)]) rfl ?_
      exact pd_zret (v := true) X w ⟨(gm_is_y hn9 (fun k hk => hj k (by omega))).symm, rfl⟩ (by decide) (by decide) d_p15m7_68
    · -- not taken: 30
      refine lv_aload_n hx hb d_p15m7_30 rfl (lv_at hl 1 rfl) ?_
      refine pd_get X w hy0 rfl 0 (by decide) mT_1139 rfl rfl d_p15m7_31 ?_
      refine lv_aload_n hx hb d_p15m7_34 rfl (lv_at hl 1 rfl) ?_
      refine pd_get X w hy0 rfl 1 (by decide) mT_1140 rfl rfl d_p15m7_35 ?_
      refine lv_iload_n hx hb d_p15m7_38 rfl (lv_at hl 2 rfl) ?_
      refine pd_iald X w ha1 (by omega) (by omega) d_p15m7_39 ?_
      refine pd_top (v' := .int (nI (sA i0))) (congrArg Value.int hws) ?_
      refine lv_iload hx hb d_p15m7_40 (lv_at hl 0 rfl) ?_
      refine pd_iadd hx hb d_p15m7_42 ?_
      refine pd_iald X w ha0 (by omega) (by omega) d_p15m7_43 ?_
      refine pd_top (v' := .int (nI (cs.getD ((sA i0) + i) 0))) (congrArg Value.int (hln _ (by omega))) ?_
      have := tx_lt hlc ((sA i0) + i)
      refine lv_lload_n hx hb d_p15m7_44 rfl (lv_at hl 3 rfl) ?_
      refine lv_bipush (v := nI 8) hx hb d_p15m7_45 (by decide) ?_
      refine lv_iload hx hb d_p15m7_47 (lv_at hl 0 rfl) ?_
      refine pd_imul hx hb d_p15m7_49 ?_
      refine lv_lshr hx hb d_p15m7_50 rfl ?_
      refine lv_ldc2 (v := 255) hx hb X.2.2.2.2.1 (X.2.2.2.2.2.1 _ mT_1137) d_p15m7_51 ?_
      refine lv_land hx hb d_p15m7_54 ?_
      refine lv_l2i hx hb d_p15m7_55 rfl ?_
      refine pd_top (v' := .int (nI (gm_oc wd i))) (congrArg Value.int (gm_oct _)) ?_
      have hoc := gm_oc_lt wd i
      refine pd_jeq (tgt := 61) hx hb d_p15m7_56 (by decide) (by omega) (by omega) (fun q2 => ?_) (fun q2 => ?_)
      · -- taken: 61
        refine pd_iinc (k := 0) (d := 1) (lv' := [(5, .int (nI (i + 1))), (0, .ref y), (1, .int (nI i0)), (2, .long wd), (4, .int (nI nn))]) hx hb d_p15m7_61 (by decide) hl rfl (by decide) rfl (fun ls hl => ?_)
        refine lv_goto (tgt := 23) hx hb d_p15m7_64 (by decide) ?_
        exact ih (i + 1) (hn9) (by omega) (fun k hk => by by_cases e9 : k = i; subst e9; omega; exact hj k (by omega)) (by omega) _ _ w ls (lv_sub hl [0, 1, 2, 3, 4] rfl)
      · -- not taken: 59
        refine lv_iconst (v := nI 0) hx hb d_p15m7_59 (by decide) ?_
        refine W.eq (g2 := F0 m 60 ls [.int (pd_b false)]) rfl ?_
        exact pd_zret (v := false) X w ⟨(gm_is_k (k := i) (by omega) (by omega)).symm, rfl⟩ (by decide) (by decide) d_p15m7_60
set_option maxHeartbeats 4000000 in
set_option maxRecDepth 100000 in
theorem c_Mod_is (l : Launch) (G : pd_G) (h : pd_H) {y : Nat} {ad : Nat → Nat} {fv : Nat → Nat → Int32} {iv : Nat → Int32} {tl : Int64} {cs : List Nat} {nw i0 : Nat} {sA eA : Nat → Nat} {wd : Int64} {nn : Nat} (hMO : pd_MO G h y ad fv iv tl) (hL : gm_L fv iv cs) (hW : gm_W fv cs nw sA eA) (hiw : i0 < nw) (hnn : nn ≤ 9) : pd_M l y_Mod_is prog_15_method_7_code 6 (some .boolean) rm_Mod_is G h [.ref y, .int (nI i0), .long wd, .int (nI nn)] pd_vb (fun r h1 => r = gm_is cs (sA i0) (eA i0) wd nn ∧ h = h1) := by
  refine pd_M.of (by decide) (Nat.le_of_ble_eq_true rfl) ?_
  intro p e s m below meth c X hmn w ls hl
  have hx := X.1
  have hb := X.2.1
  have hl : lv_has ls 6 [(0, .ref y), (1, .int (nI i0)), (2, .long wd), (4, .int (nI nn))] := hl
  have hz_y := hMO.2.1
  have hy0 : h y = some (20, .inr (10, [.ref (ad 0), .ref (ad 1), .ref (ad 2), .int (iv 3), .int (iv 4), .int (iv 5), .ref (ad 6), .ref (ad 7), .ref (ad 8), .ref (ad 9), .ref (ad 10), .ref (ad 11), .int (iv 12), .ref (ad 13), .ref (ad 14), .ref (ad 15), .ref (ad 16), .ref (ad 17), .ref (ad 18), .ref (ad 19), .int (iv 20), .ref (ad 21), .ref (ad 22), .ref (ad 23), .ref (ad 24), .ref (ad 25), .ref (ad 26), .ref (ad 27), .ref (ad 28), .int (iv 29), .ref (ad 30), .ref (ad 31), .int (iv 32), .int (iv 33), .int (iv 34), .int (iv 35), .long tl, .int (iv 37), .int (iv 38), .int (iv 39), .int (iv 40), .ref (ad 41), .ref (ad 42), .int (iv 43)])) := hMO.1
  have ha0 : h (ad 0) = some (30, .inl (.int, 60, .inl (fv 0))) := (hMO.2.2 0 (by decide)).1
  have ha1 : h (ad 1) = some (31, .inl (.int, 40, .inl (fv 1))) := (hMO.2.2 1 (by decide)).1
  have ha2 : h (ad 2) = some (32, .inl (.int, 40, .inl (fv 2))) := (hMO.2.2 2 (by decide)).1
  obtain ⟨hiv3, hln, hl60, hlc⟩ := id hL
  have hw31 := hW.1
  obtain ⟨hws, hwe, hwl, hwc⟩ := hW.2 i0 hiw
  refine lv_aload_n hx hb d_p15m7_0 rfl (lv_at hl 0 rfl) ?_
  refine pd_get X w hy0 rfl 2 (by decide) mT_1141 rfl rfl d_p15m7_1 ?_
  refine lv_iload_n hx hb d_p15m7_4 rfl (lv_at hl 1 rfl) ?_
  refine pd_iald X w ha2 (by omega) (by omega) d_p15m7_5 ?_
  refine pd_top (v' := .int (nI (eA i0))) (congrArg Value.int hwe) ?_
  refine lv_aload_n hx hb d_p15m7_6 rfl (lv_at hl 0 rfl) ?_
  refine pd_get X w hy0 rfl 1 (by decide) mT_1140 rfl rfl d_p15m7_7 ?_
  refine lv_iload_n hx hb d_p15m7_10 rfl (lv_at hl 1 rfl) ?_
  refine pd_iald X w ha1 (by omega) (by omega) d_p15m7_11 ?_
  refine pd_top (v' := .int (nI (sA i0))) (congrArg Value.int hws) ?_
  refine pd_isub hx hb d_p15m7_12 (by omega) ?_
  refine lv_iload hx hb d_p15m7_13 (lv_at hl 3 rfl) ?_
  refine pd_jeq (tgt := 20) hx hb d_p15m7_15 (by decide) (by omega) (by omega) (fun q1 => ?_) (fun q1 => ?_)
  · -- taken: 20
    refine lv_iconst (v := nI 0) hx hb d_p15m7_20 (by decide) ?_
    refine lv_istore (lv' := [(5, .int (nI 0)), (0, .ref y), (1, .int (nI i0)), (2, .long wd), (4, .int (nI nn))]) hx hb d_p15m7_21 hl (by decide) rfl (fun ls hl => ?_)
    exact lp_Mod_is_23 l G h hMO hL hW hiw hnn X hmn (nn + 1) 0 (by omega) (by omega) (fun k hk => absurd hk (Nat.not_lt_zero k)) (by omega) _ _ w ls (lv_sub hl [0, 1, 2, 3, 4] rfl)
  · -- not taken: 18
    refine lv_iconst (v := nI 0) hx hb d_p15m7_18 (by decide) ?_
    refine W.eq (g2 := F0 m 19 ls [.int (pd_b false)]) rfl ?_
    exact pd_zret (v := false) X w ⟨(gm_is_n (by omega)).symm, rfl⟩ (by decide) (by decide) d_p15m7_19
theorem d_p15m5_0 : decode prog_15_method_5_code 0 = .ok (.aload_n 0, 1) := by decide +kernel
theorem d_p15m5_1 : decode prog_15_method_5_code 1 = .ok (.getfield 113, 3) := by decide +kernel
theorem d_p15m5_4 : decode prog_15_method_5_code 4 = .ok (.istore_n 1, 1) := by decide +kernel
theorem d_p15m5_5 : decode prog_15_method_5_code 5 = .ok (.aload_n 0, 1) := by decide +kernel
theorem d_p15m5_6 : decode prog_15_method_5_code 6 = .ok (.iconst 0, 1) := by decide +kernel
theorem d_p15m5_7 : decode prog_15_method_5_code 7 = .ok (.putfield 113, 3) := by decide +kernel
theorem d_p15m5_10 : decode prog_15_method_5_code 10 = .ok (.iload_n 1, 1) := by decide +kernel
theorem d_p15m5_11 : decode prog_15_method_5_code 11 = .ok (.ireturn, 1) := by decide +kernel
abbrev y_Mod_drop : MethodName := ⟨"PolicyDeskModel", "drop", "()I"⟩
theorem ok_Mod_drop : pd_ok y_Mod_drop prog_15_method_5_code 2 (some .int) 0 := ⟨mT_1283, mT_21, by decide, by decide +kernel⟩
abbrev rm_Mod_drop : Room := { frames := 0, cells := 0, slots := 0, locals := 0 }
set_option maxHeartbeats 4000000 in
set_option maxRecDepth 100000 in
theorem c_Mod_drop (l : Launch) (G : pd_G) (h : pd_H) {y : Nat} {ad : Nat → Nat} {fv : Nat → Nat → Int32} {iv : Nat → Int32} {tl : Int64} {cs : List Nat} (hMO : pd_MO G h y ad fv iv tl) (hL : gm_L fv iv cs) : pd_M l y_Mod_drop prog_15_method_5_code 2 (some .int) rm_Mod_drop G h [.ref y] Value.int (fun r h1 => r = nI cs.length ∧ pd_kx [20] h h1 ∧ pd_MO G h1 y ad fv (pd_fu iv 3 (nI 0)) tl) := by
  refine pd_M.of (by decide) (Nat.le_of_ble_eq_true rfl) ?_
  intro p e s m below meth c X hmn w ls hl
  have hx := X.1
  have hb := X.2.1
  have hl : lv_has ls 2 [(0, .ref y)] := hl
  have hz_y := hMO.2.1
  have hy0 : h y = some (20, .inr (10, [.ref (ad 0), .ref (ad 1), .ref (ad 2), .int (iv 3), .int (iv 4), .int (iv 5), .ref (ad 6), .ref (ad 7), .ref (ad 8), .ref (ad 9), .ref (ad 10), .ref (ad 11), .int (iv 12), .ref (ad 13), .ref (ad 14), .ref (ad 15), .ref (ad 16), .ref (ad 17), .ref (ad 18), .ref (ad 19), .int (iv 20), .ref (ad 21), .ref (ad 22), .ref (ad 23), .ref (ad 24), .ref (ad 25), .ref (ad 26), .ref (ad 27), .ref (ad 28), .int (iv 29), .ref (ad 30), .ref (ad 31), .int (iv 32), .int (iv 33), .int (iv 34), .int (iv 35), .long tl, .int (iv 37), .int (iv 38), .int (iv 39), .int (iv 40), .ref (ad 41), .ref (ad 42), .int (iv 43)])) := hMO.1
  obtain ⟨hiv3, hln, hl60, hlc⟩ := id hL
  refine lv_aload_n hx hb d_p15m5_0 rfl (lv_at hl 0 rfl) ?_
  refine pd_get X w hy0 rfl 3 (by decide) mT_1142 rfl rfl d_p15m5_1 ?_
  refine pd_top (v' := .int (nI cs.length)) (congrArg Value.int hiv3) ?_
  refine lv_istore_n (lv' := [(1, .int (nI cs.length)), (0, .ref y)]) hx hb d_p15m5_4 rfl hl (by decide) rfl (fun ls hl => ?_)
  refine lv_aload_n hx hb d_p15m5_5 rfl (lv_at hl 1 rfl) ?_
  refine lv_iconst (v := nI 0) hx hb d_p15m5_6 (by decide) ?_
  refine pd_put (ty := .int) X w hy0 hz_y rfl 3 (by decide) mT_1142 rfl rfl (by decide +kernel) rfl rfl (Nat.le_of_ble_eq_true rfl) d_p15m5_7 (fun H locs w => ?_)
  have w : pd_w G s H locs (pd_up h y (20, .inr (10, [.ref (ad 0), .ref (ad 1), .ref (ad 2), .int (nI 0), .int (iv 4), .int (iv 5), .ref (ad 6), .ref (ad 7), .ref (ad 8), .ref (ad 9), .ref (ad 10), .ref (ad 11), .int (iv 12), .ref (ad 13), .ref (ad 14), .ref (ad 15), .ref (ad 16), .ref (ad 17), .ref (ad 18), .ref (ad 19), .int (iv 20), .ref (ad 21), .ref (ad 22), .ref (ad 23), .ref (ad 24), .ref (ad 25), .ref (ad 26), .ref (ad 27), .ref (ad 28), .int (iv 29), .ref (ad 30), .ref (ad 31), .int (iv 32), .int (iv 33), .int (iv 34), .int (iv 35), .long tl, .int (iv 37), .int (iv 38), .int (iv 39), .int (iv 40), .ref (ad 41), .ref (ad 42), .int (iv 43)]))) := w
  obtain ⟨h1, u4⟩ : ∃ z, z = pd_up h y (20, .inr (10, [.ref (ad 0), .ref (ad 1), .ref (ad 2), .int (nI 0), .int (iv 4), .int (iv 5), .ref (ad 6), .ref (ad 7), .ref (ad 8), .ref (ad 9), .ref (ad 10), .ref (ad 11), .int (iv 12), .ref (ad 13), .ref (ad 14), .ref (ad 15), .ref (ad 16), .ref (ad 17), .ref (ad 18), .ref (ad 19), .int (iv 20), .ref (ad 21), .ref (ad 22), .ref (ad 23), .ref (ad 24), .ref (ad 25), .ref (ad 26), .ref (ad 27), .ref (ad 28), .int (iv 29), .ref (ad 30), .ref (ad 31), .int (iv 32), .int (iv 33), .int (iv 34), .int (iv 35), .long tl, .int (iv 37), .int (iv 38), .int (iv 39), .int (iv 40), .ref (ad 41), .ref (ad 42), .int (iv 43)])) := ⟨_, rfl⟩
  rw [← u4] at w
  have k2 : pd_kq y h h1 := by rw [u4]; exact pd_up_kq
  have f3 : h1 y = some (20, .inr (10, [.ref (ad 0), .ref (ad 1), .ref (ad 2), .int (nI 0), .int (iv 4), .int (iv 5), .ref (ad 6), .ref (ad 7), .ref (ad 8), .ref (ad 9), .ref (ad 10), .ref (ad 11), .int (iv 12), .ref (ad 13), .ref (ad 14), .ref (ad 15), .ref (ad 16), .ref (ad 17), .ref (ad 18), .ref (ad 19), .int (iv 20), .ref (ad 21), .ref (ad 22), .ref (ad 23), .ref (ad 24), .ref (ad 25), .ref (ad 26), .ref (ad 27), .ref (ad 28), .int (iv 29), .ref (ad 30), .ref (ad 31), .int (iv 32), .int (iv 33), .int (iv 34), .int (iv 35), .long tl, .int (iv 37), .int (iv 38), .int (iv 39), .int (iv 40), .ref (ad 41), .ref (ad 42), .int (iv 43)])) := by rw [u4]; exact pd_up_s _ _ _
  refine lv_iload_n hx hb d_p15m5_10 rfl (lv_at hl 0 rfl) ?_
  exact pd_iret (v := (nI cs.length)) X w ⟨rfl, pd_kq.kx (k2) hy0, (pd_MO.of (fv2 := fv) (iv2 := pd_fu iv 3 (nI 0)) (tl2 := tl) (ts := [20]) hMO (pd_kq.kx (k2) hy0) f3 (fun j hj => Or.inr ⟨fun z => by first | (simp at z; done) | (simp at z; omega), rfl⟩))⟩ (by decide) (by decide) d_p15m5_11
