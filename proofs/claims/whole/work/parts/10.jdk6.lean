theorem d_p17m71_0 : decode prog_17_method_71_code 0 = .ok (.getstatic 18, 3) := by decide +kernel
theorem d_p17m71_3 : decode prog_17_method_71_code 3 = .ok (.ifCond .eq 18, 3) := by decide +kernel
theorem d_p17m71_6 : decode prog_17_method_71_code 6 = .ok (.aload_n 0, 1) := by decide +kernel
theorem d_p17m71_7 : decode prog_17_method_71_code 7 = .ok (.getfield 22, 3) := by decide +kernel
theorem d_p17m71_10 : decode prog_17_method_71_code 10 = .ok (.aload_n 1, 1) := by decide +kernel
theorem d_p17m71_11 : decode prog_17_method_71_code 11 = .ok (.invokevirtual 40, 3) := by decide +kernel
theorem d_p17m71_14 : decode prog_17_method_71_code 14 = .ok (.if_icmp .eq 7, 3) := by decide +kernel
theorem d_p17m71_17 : decode prog_17_method_71_code 17 = .ok (.aload_n 0, 1) := by decide +kernel
theorem d_p17m71_18 : decode prog_17_method_71_code 18 = .ok (.invokevirtual 195, 3) := by decide +kernel
theorem d_p17m71_21 : decode prog_17_method_71_code 21 = .ok (.return_, 1) := by decide +kernel
abbrev y_AbstractStringBuilder_inflateIfNeededFor : MethodName := ⟨"java/lang/AbstractStringBuilder", "inflateIfNeededFor", "(Ljava/lang/String;)V"⟩
theorem ok_AbstractStringBuilder_inflateIfNeededFor : pd_ok y_AbstractStringBuilder_inflateIfNeededFor prog_17_method_71_code 2 none 1 := ⟨mT_1045, mT_2, by decide, by decide +kernel⟩
abbrev rm_AbstractStringBuilder_inflateIfNeededFor : Room := { frames := 1, cells := 0, slots := 0, locals := 20 }
set_option maxHeartbeats 4000000 in
set_option maxRecDepth 100000 in
theorem c_AbstractStringBuilder_inflateIfNeededFor (l : Launch) (G : pd_G) (h : pd_H) {b v t1 t2 cap n : Nat} {ml : Bool} {f : Nat → Int32} {a : Nat} {ds : List Nat} (hob : h b = some (t1, .inr (11, [.ref v, .int (nI 0), .int (pd_b ml), .int (nI n)]))) (hov : h v = some (t2, .inl (.byte, cap, .inl f))) (htt : t2 ≠ t1) (hcap : cap ≤ 200) (hnc : n ≤ cap) (hfit : ∀ j, fits .byte (.int (f j)) = true) (hz_b : G.2.1 ≤ b) (hz_v : G.2.1 ≤ v) (h01 : t1 ≠ 0) (h02 : t2 ≠ 0) (hS : pd_Str h a ds) : pd_Mv l y_AbstractStringBuilder_inflateIfNeededFor prog_17_method_71_code 2 rm_AbstractStringBuilder_inflateIfNeededFor G h [.ref b, .ref a] (fun h1 => h = h1) := by
  refine pd_Mv.of (by decide) (Nat.le_of_ble_eq_true rfl) ?_
  intro p e s m below meth c X hmn w ls hl
  have hx := X.1
  have hb := X.2.1
  have hl : lv_has ls 2 [(0, .ref b), (1, .ref a)] := hl
  obtain ⟨v1, f1, hv1, hv2, hvf1, hvc1, hvl1⟩ := id hS
  have h01s := Ne.symm h01
  have h02s := Ne.symm h02
  have htts := Ne.symm htt
  refine pd_gets X w (List.mem_of_getElem? (i := 0) rfl) mT_49 d_p17m71_0 ?_
  refine pd_zeq (tgt := 21) hx hb d_p17m71_3 (by decide) (by decide) (fun q => absurd q (by decide)) (fun _ => ?_)
  refine lv_aload_n hx hb d_p17m71_6 rfl (lv_at hl 0 rfl) ?_
  refine pd_get X w hob rfl 1 (by decide) mT_59 rfl rfl d_p17m71_7 ?_
  refine lv_aload_n hx hb d_p17m71_10 rfl (lv_at hl 1 rfl) ?_
  refine pd_cV (a := a) (As := []) (rest := [.int (nI 0)]) X w hv1 rfl (c_String_coder l G h (by assumption)) ok_String_coder ⟨mT_97, mT_98⟩ mT_1046 ⟨by decide, by decide⟩ rfl hl.1 rfl (Nat.le_of_ble_eq_true rfl) d_p17m71_11 ⟨by decide, by decide⟩ (fun r2 h3 H locs hp4 w => ?_)
  refine W.widen (k := 0) (n := 0) (by decide) (by decide) ?_
  obtain ⟨e5, rfl⟩ := hp4
  subst e5
  refine pd_jeq (tgt := 21) hx hb d_p17m71_14 (by decide) (by decide) (by decide) (fun _ => ?_) (fun q => absurd q (by decide))
  exact pd_vret X w rfl (by decide) (by decide) d_p17m71_21
theorem d_p17m73_0 : decode prog_17_method_73_code 0 = .ok (.aload_n 0, 1) := by decide +kernel
theorem d_p17m73_1 : decode prog_17_method_73_code 1 = .ok (.aload_n 2, 1) := by decide +kernel
theorem d_p17m73_2 : decode prog_17_method_73_code 2 = .ok (.invokevirtual 397, 3) := by decide +kernel
theorem d_p17m73_5 : decode prog_17_method_73_code 5 = .ok (.aload_n 2, 1) := by decide +kernel
theorem d_p17m73_6 : decode prog_17_method_73_code 6 = .ok (.aload_n 0, 1) := by decide +kernel
theorem d_p17m73_7 : decode prog_17_method_73_code 7 = .ok (.getfield 15, 3) := by decide +kernel
theorem d_p17m73_10 : decode prog_17_method_73_code 10 = .ok (.iload_n 1, 1) := by decide +kernel
theorem d_p17m73_11 : decode prog_17_method_73_code 11 = .ok (.aload_n 0, 1) := by decide +kernel
theorem d_p17m73_12 : decode prog_17_method_73_code 12 = .ok (.getfield 22, 3) := by decide +kernel
theorem d_p17m73_15 : decode prog_17_method_73_code 15 = .ok (.invokevirtual 399, 3) := by decide +kernel
theorem d_p17m73_18 : decode prog_17_method_73_code 18 = .ok (.return_, 1) := by decide +kernel
abbrev y_AbstractStringBuilder_putStringAt : MethodName := ⟨"java/lang/AbstractStringBuilder", "putStringAt", "(ILjava/lang/String;)V"⟩
theorem ok_AbstractStringBuilder_putStringAt : pd_ok y_AbstractStringBuilder_putStringAt prog_17_method_73_code 3 none 2 := ⟨mT_1041, mT_2, by decide, by decide +kernel⟩
abbrev rm_AbstractStringBuilder_putStringAt : Room := { frames := 2, cells := 0, slots := 0, locals := 63 }
set_option maxHeartbeats 4000000 in
set_option maxRecDepth 100000 in
theorem c_AbstractStringBuilder_putStringAt (l : Launch) (G : pd_G) (h : pd_H) {b v t1 t2 cap n : Nat} {ml : Bool} {f : Nat → Int32} {k : Nat} {a : Nat} {ds : List Nat} (hob : h b = some (t1, .inr (11, [.ref v, .int (nI 0), .int (pd_b ml), .int (nI n)]))) (hov : h v = some (t2, .inl (.byte, cap, .inl f))) (htt : t2 ≠ t1) (hcap : cap ≤ 200) (hnc : n ≤ cap) (hfit : ∀ j, fits .byte (.int (f j)) = true) (hz_b : G.2.1 ≤ b) (hz_v : G.2.1 ≤ v) (h01 : t1 ≠ 0) (h02 : t2 ≠ 0) (hS : pd_Str h a ds) (hkd : k + ds.length ≤ cap) : pd_Mv l y_AbstractStringBuilder_putStringAt prog_17_method_73_code 3 rm_AbstractStringBuilder_putStringAt G h [.ref b, .int (nI k), .ref a] (fun h1 => pd_kx [t2] h h1 ∧ ∃ g, h1 v = some (t2, .inl (.byte, cap, .inl (va_cpy g f 0 k ds.length))) ∧ (∀ j, j < ds.length → g j = sb_b (ds.getD j 0)) ∧ pd_kq v h h1) := by
  refine pd_Mv.of (by decide) (Nat.le_of_ble_eq_true rfl) ?_
  intro p e s m below meth c X hmn w ls hl
  have hx := X.1
  have hb := X.2.1
  have hl : lv_has ls 3 [(0, .ref b), (1, .int (nI k)), (2, .ref a)] := hl
  obtain ⟨v1, f1, hv1, hv2, hvf1, hvc1, hvl1⟩ := id hS
  have h01s := Ne.symm h01
  have h02s := Ne.symm h02
  have htts := Ne.symm htt
  refine lv_aload_n hx hb d_p17m73_0 rfl (lv_at hl 0 rfl) ?_
  refine lv_aload_n hx hb d_p17m73_1 rfl (lv_at hl 2 rfl) ?_
  refine pd_cUv (a := b) (As := [.ref a]) (rest := []) X w hob rfl (c_AbstractStringBuilder_inflateIfNeededFor l G h (by assumption) (by assumption) (by assumption) (by assumption) (by assumption) (by assumption) (by assumption) (by assumption) (by assumption) (by assumption) (by assumption)) ok_AbstractStringBuilder_inflateIfNeededFor rfl ⟨mT_1044, (X.px (List.mem_of_getElem? (i := 5) rfl)), mT_1491⟩ mT_1042 ⟨by decide, by decide⟩ rfl hl.1 rfl (Nat.le_of_ble_eq_true rfl) d_p17m73_2 ⟨by decide, by decide⟩ (fun h2 H locs hp3 w => ?_)
  refine W.widen (k := 0) (n := 0) (by decide) (by decide) ?_
  subst hp3
  refine lv_aload_n hx hb d_p17m73_5 rfl (lv_at hl 2 rfl) ?_
  refine lv_aload_n hx hb d_p17m73_6 rfl (lv_at hl 0 rfl) ?_
  refine pd_get X w hob rfl 0 (by decide) mT_58 rfl rfl d_p17m73_7 ?_
  refine lv_iload_n hx hb d_p17m73_10 rfl (lv_at hl 1 rfl) ?_
  refine lv_aload_n hx hb d_p17m73_11 rfl (lv_at hl 0 rfl) ?_
  refine pd_get X w hob rfl 1 (by decide) mT_59 rfl rfl d_p17m73_12 ?_
  refine pd_cVv (a := a) (As := [.ref v, .int (nI k), .int (nI 0)]) (rest := []) X w hv1 rfl (c_String_getBytes l G h (by assumption) (by assumption) (by assumption) (by assumption) (by omega) (by omega)) ok_String_getBytes ⟨mT_1048, mT_1049⟩ mT_1047 ⟨by decide, by decide⟩ rfl hl.1 rfl (Nat.le_of_ble_eq_true rfl) d_p17m73_15 ⟨by decide, by decide⟩ (fun h5 H locs hp6 w => ?_)
  refine W.widen (k := 0) (n := 0) (by decide) (by decide) ?_
  obtain ⟨k7, g8, f9, gj10, k11⟩ := hp6
  have f12 := k7 _ _ hob (by simp [htt, htts, h01, h01s, h02, h02s])
  have f13 := k7 _ _ hv1 (by simp [htt, htts, h01, h01s, h02, h02s])
  have f14 := k7 _ _ hv2 (by simp [htt, htts, h01, h01s, h02, h02s])
  have f15 := hS.kx k7 (by simp [htt, htts, h01, h01s, h02, h02s])
  exact pd_vret X w ⟨k7, _, f9, gj10, k11⟩ (by decide) (by decide) d_p17m73_18
theorem sb_fitC2 {ds : List Nat} {g f : Nat → Int32} {n : Nat} (hg : ∀ j, j < ds.length → g j = sb_b (ds.getD j 0)) (hf : ∀ j, fits .byte (.int (f j)) = true) : ∀ j, fits .byte (.int (va_cpy g f 0 n ds.length j)) = true := by
  intro j
  by_cases z : n ≤ j ∧ j < n + ds.length
  · rw [pk_cpy_in z.1 z.2, hg _ (by omega)]
    exact sb_fitB _
  · rw [pk_cpy_out (by omega)]
    exact hf j
theorem d_p17m22_0 : decode prog_17_method_22_code 0 = .ok (.aload_n 1, 1) := by decide +kernel
theorem d_p17m22_1 : decode prog_17_method_22_code 1 = .ok (.ifnonnull 8, 3) := by decide +kernel
theorem d_p17m22_4 : decode prog_17_method_22_code 4 = .ok (.aload_n 0, 1) := by decide +kernel
theorem d_p17m22_5 : decode prog_17_method_22_code 5 = .ok (.invokevirtual 204, 3) := by decide +kernel
theorem d_p17m22_8 : decode prog_17_method_22_code 8 = .ok (.areturn, 1) := by decide +kernel
theorem d_p17m22_9 : decode prog_17_method_22_code 9 = .ok (.aload_n 1, 1) := by decide +kernel
theorem d_p17m22_10 : decode prog_17_method_22_code 10 = .ok (.invokevirtual 32, 3) := by decide +kernel
theorem d_p17m22_13 : decode prog_17_method_22_code 13 = .ok (.istore_n 2, 1) := by decide +kernel
theorem d_p17m22_14 : decode prog_17_method_22_code 14 = .ok (.aload_n 0, 1) := by decide +kernel
theorem d_p17m22_15 : decode prog_17_method_22_code 15 = .ok (.aload_n 0, 1) := by decide +kernel
theorem d_p17m22_16 : decode prog_17_method_22_code 16 = .ok (.getfield 79, 3) := by decide +kernel
theorem d_p17m22_19 : decode prog_17_method_22_code 19 = .ok (.iload_n 2, 1) := by decide +kernel
theorem d_p17m22_20 : decode prog_17_method_22_code 20 = .ok (.iadd, 1) := by decide +kernel
theorem d_p17m22_21 : decode prog_17_method_22_code 21 = .ok (.invokevirtual 100, 3) := by decide +kernel
theorem d_p17m22_24 : decode prog_17_method_22_code 24 = .ok (.aload_n 0, 1) := by decide +kernel
theorem d_p17m22_25 : decode prog_17_method_22_code 25 = .ok (.aload_n 0, 1) := by decide +kernel
theorem d_p17m22_26 : decode prog_17_method_22_code 26 = .ok (.getfield 79, 3) := by decide +kernel
theorem d_p17m22_29 : decode prog_17_method_22_code 29 = .ok (.aload_n 1, 1) := by decide +kernel
theorem d_p17m22_30 : decode prog_17_method_22_code 30 = .ok (.invokevirtual 208, 3) := by decide +kernel
theorem d_p17m22_33 : decode prog_17_method_22_code 33 = .ok (.aload_n 0, 1) := by decide +kernel
theorem d_p17m22_34 : decode prog_17_method_22_code 34 = .ok (.dup, 1) := by decide +kernel
theorem d_p17m22_35 : decode prog_17_method_22_code 35 = .ok (.getfield 79, 3) := by decide +kernel
theorem d_p17m22_38 : decode prog_17_method_22_code 38 = .ok (.iload_n 2, 1) := by decide +kernel
theorem d_p17m22_39 : decode prog_17_method_22_code 39 = .ok (.iadd, 1) := by decide +kernel
theorem d_p17m22_40 : decode prog_17_method_22_code 40 = .ok (.putfield 79, 3) := by decide +kernel
theorem d_p17m22_43 : decode prog_17_method_22_code 43 = .ok (.aload_n 0, 1) := by decide +kernel
theorem d_p17m22_44 : decode prog_17_method_22_code 44 = .ok (.areturn, 1) := by decide +kernel
abbrev y_ASB_appendS : MethodName := ⟨"java/lang/AbstractStringBuilder", "append", "(Ljava/lang/String;)Ljava/lang/AbstractStringBuilder;"⟩
theorem ok_ASB_appendS : pd_ok y_ASB_appendS prog_17_method_22_code 3 (some (.object "java/lang/AbstractStringBuilder")) 1 := ⟨mT_1029, mT_2, by decide, by decide +kernel⟩
abbrev rm_ASB_appendS : Room := { frames := 4, cells := 1, slots := 200, locals := 91 }
set_option maxHeartbeats 4000000 in
set_option maxRecDepth 100000 in
theorem c_ASB_appendS (l : Launch) (G : pd_G) (h : pd_H) {b t1 t2 : Nat} {cs : List Nat} {a : Nat} {ds : List Nat} (hSB : pd_SB G h b t1 t2 cs) (htt : t2 ≠ t1) (h01 : t1 ≠ 0) (h02 : t2 ≠ 0) (hS : pd_Str h a ds) (hln : cs.length + ds.length ≤ 100) : pd_M l y_ASB_appendS prog_17_method_22_code 3 (some (.object "java/lang/AbstractStringBuilder")) rm_ASB_appendS G h [.ref b, .ref a] Value.ref (fun r h1 => b = r ∧ pd_kx [t1, t2] h h1 ∧ pd_SB G h1 b t1 t2 (cs ++ ds)) := by
  refine pd_M.of (by decide) (Nat.le_of_ble_eq_true rfl) ?_
  intro p e s m below meth c X hmn w ls hl
  have hx := X.1
  have hb := X.2.1
  have hl : lv_has ls 3 [(0, .ref b), (1, .ref a)] := hl
  obtain ⟨v, cap, f, ml, hob, hov, hvf, hvc, hnc, hcap, hfit, hz_b, hz_v⟩ := id hSB
  have h01s := Ne.symm h01
  have h02s := Ne.symm h02
  have htts := Ne.symm htt
  obtain ⟨v1, f1, hv1, hv2, hvf1, hvc1, hvl1⟩ := id hS
  refine lv_aload_n hx hb d_p17m22_0 rfl (lv_at hl 1 rfl) ?_
  refine lv_ifnonnull (tgt := 9) hx hb d_p17m22_1 (by decide) ?_
  refine lv_aload_n hx hb d_p17m22_9 rfl (lv_at hl 1 rfl) ?_
  refine pd_cV (a := a) (As := []) (rest := []) X w hv1 rfl (c_String_length l G h (by assumption)) ok_String_length ⟨mT_93, mT_94⟩ mT_1037 ⟨by decide, by decide⟩ rfl hl.1 rfl (Nat.le_of_ble_eq_true rfl) d_p17m22_10 ⟨by decide, by decide⟩ (fun r2 h3 H locs hp4 w => ?_)
  refine W.widen (k := 0) (n := 0) (by decide) (by decide) ?_
  obtain ⟨e5, rfl⟩ := hp4
  subst e5
  refine lv_istore_n (lv' := [(2, .int (nI ds.length)), (0, .ref b), (1, .ref a)]) hx hb d_p17m22_13 rfl hl (by decide) rfl (fun ls hl => ?_)
  refine lv_aload_n hx hb d_p17m22_14 rfl (lv_at hl 1 rfl) ?_
  refine lv_aload_n hx hb d_p17m22_15 rfl (lv_at hl 1 rfl) ?_
  refine pd_get X w hob rfl 3 (by decide) mT_62 rfl rfl d_p17m22_16 ?_
  refine lv_iload_n hx hb d_p17m22_19 rfl (lv_at hl 0 rfl) ?_
  refine pd_iadd hx hb d_p17m22_20 ?_
  refine pd_cUv (a := b) (As := [.int (nI (cs.length + ds.length))]) (rest := []) X w hob rfl (c_AbstractStringBuilder_ensureCapacityInternal l G h (by assumption) (by assumption) (by assumption) (by assumption) (by assumption) (by assumption) (by assumption) (by assumption) (by omega)) ok_AbstractStringBuilder_ensureCapacityInternal rfl ⟨mT_424, (X.px (List.mem_of_getElem? (i := 0) rfl)), mT_1482⟩ mT_422 ⟨by decide, by decide⟩ rfl hl.1 rfl (Nat.le_of_ble_eq_true rfl) d_p17m22_21 ⟨by decide, by decide⟩ (fun h7 H locs hp8 w => ?_)
  refine W.widen (k := 1) (n := 200) (by decide) (by decide) ?_
  obtain ⟨k9, v10, cap11, f12, f13, f14, g15, c16, c17, c18, ft19, hz20⟩ := hp8
  have f21 := k9 _ _ hv1 (by simp [htt, htts, h01, h01s, h02, h02s])
  have f22 := k9 _ _ hv2 (by simp [htt, htts, h01, h01s, h02, h02s])
  have f23 := hS.kx k9 (by simp [htt, htts, h01, h01s, h02, h02s])
  refine lv_aload_n hx hb d_p17m22_24 rfl (lv_at hl 1 rfl) ?_
  refine lv_aload_n hx hb d_p17m22_25 rfl (lv_at hl 1 rfl) ?_
  refine pd_get X w f13 rfl 3 (by decide) mT_62 rfl rfl d_p17m22_26 ?_
  refine lv_aload_n hx hb d_p17m22_29 rfl (lv_at hl 2 rfl) ?_
  refine pd_cUv (a := b) (As := [.int (nI cs.length), .ref a]) (rest := []) X w f13 rfl (c_AbstractStringBuilder_putStringAt l G h7 (by assumption) (by assumption) (by assumption) (by assumption) (by assumption) (by assumption) (by assumption) (by assumption) (by assumption) (by assumption) (by assumption) (by omega)) ok_AbstractStringBuilder_putStringAt rfl ⟨mT_1040, (X.px (List.mem_of_getElem? (i := 4) rfl)), mT_1490⟩ mT_1038 ⟨by decide, by decide⟩ rfl hl.1 rfl (Nat.le_of_ble_eq_true rfl) d_p17m22_30 ⟨by decide, by decide⟩ (fun h25 H locs hp26 w => ?_)
  refine W.widen (k := 1) (n := 200) (by decide) (by decide) ?_
  obtain ⟨k27, g28, f29, gj30, k31⟩ := hp26
  have f32 := k27 _ _ f21 (by simp [htt, htts, h01, h01s, h02, h02s])
  have f33 := k27 _ _ f13 (by simp [htt, htts, h01, h01s, h02, h02s])
  have f34 := k27 _ _ f22 (by simp [htt, htts, h01, h01s, h02, h02s])
  have f35 := f23.kx k27 (by simp [htt, htts, h01, h01s, h02, h02s])
  refine lv_aload_n hx hb d_p17m22_33 rfl (lv_at hl 1 rfl) ?_
  refine lv_dup hx hb d_p17m22_34 rfl ?_
  refine pd_get X w f33 rfl 3 (by decide) mT_62 rfl rfl d_p17m22_35 ?_
  refine lv_iload_n hx hb d_p17m22_38 rfl (lv_at hl 0 rfl) ?_
  refine pd_iadd hx hb d_p17m22_39 ?_
  refine pd_put (ty := .int) X w f33 hz_b rfl 3 (by decide) mT_62 rfl rfl (by decide +kernel) rfl rfl (Nat.le_of_ble_eq_true rfl) d_p17m22_40 (fun H locs w => ?_)
  have w : pd_w G s H locs (pd_up h25 b (t1, .inr (11, [.ref v10, .int (nI 0), .int (pd_b ml), .int (nI (cs.length + ds.length))]))) := w
  obtain ⟨h36, u39⟩ : ∃ z, z = pd_up h25 b (t1, .inr (11, [.ref v10, .int (nI 0), .int (pd_b ml), .int (nI (cs.length + ds.length))])) := ⟨_, rfl⟩
  rw [← u39] at w
  have k37 : pd_kq b h25 h36 := by rw [u39]; exact pd_up_kq
  have f38 : h36 b = some (t1, .inr (11, [.ref v10, .int (nI 0), .int (pd_b ml), .int (nI (cs.length + ds.length))])) := by rw [u39]; exact pd_up_s _ _ _
  have f40 := k37 _ _ (pd_ne f32 f33 (by simp [htt, htts, h01, h01s, h02, h02s])) f32
  have f41 := k37 _ _ (pd_ne f34 f33 (by simp [htt, htts, h01, h01s, h02, h02s])) f34
  have f42 := k37 _ _ (pd_ne f29 f33 (by simp [htt, htts, h01, h01s, h02, h02s])) f29
  have f43 := f35.kq k37 f33 (by simp [pd_ns, htt, htts, h01, h01s, h02, h02s])
  refine lv_aload_n hx hb d_p17m22_43 rfl (lv_at hl 1 rfl) ?_
  exact pd_aret (v := b) X (Or.inl ⟨_, rfl⟩) w ⟨rfl, pd_kx.tr (pd_kx.tr (pd_kx.mono (us := [t1, t2]) (k9) (by simp)) (pd_kx.mono (us := [t1, t2]) (k27) (by simp))) (pd_kx.mono (us := [t1, t2]) (pd_kq.kx (k37) f33) (by simp)), _, _, _, ml, (by rw [List.length_append]; exact f38), f42, tx_by2 hvf g15 gj30, tx_app_lt hvc hvc1, (by rw [List.length_append]; exact c16), c18, sb_fitC2 gj30 ft19, hz_b, hz20⟩ (by decide) (by decide) d_p17m22_44
theorem d_p25m14_0 : decode prog_25_method_14_code 0 = .ok (.aload_n 0, 1) := by decide +kernel
theorem d_p25m14_1 : decode prog_25_method_14_code 1 = .ok (.iload_n 1, 1) := by decide +kernel
theorem d_p25m14_2 : decode prog_25_method_14_code 2 = .ok (.invokespecial 50, 3) := by decide +kernel
theorem d_p25m14_5 : decode prog_25_method_14_code 5 = .ok (.pop, 1) := by decide +kernel
theorem d_p25m14_6 : decode prog_25_method_14_code 6 = .ok (.aload_n 0, 1) := by decide +kernel
theorem d_p25m14_7 : decode prog_25_method_14_code 7 = .ok (.areturn, 1) := by decide +kernel
abbrev y_SB_appendC : MethodName := ⟨"java/lang/StringBuilder", "append", "(C)Ljava/lang/StringBuilder;"⟩
theorem ok_SB_appendC : pd_ok y_SB_appendC prog_25_method_14_code 2 (some (.object "java/lang/StringBuilder")) 1 := ⟨mT_418, mT_3, by decide, by decide +kernel⟩
abbrev rm_SB_appendC : Room := { frames := 5, cells := 1, slots := 200, locals := 112 }
set_option maxHeartbeats 4000000 in
set_option maxRecDepth 100000 in
theorem c_SB_appendC (l : Launch) (G : pd_G) (h : pd_H) {b t1 t2 : Nat} {cs : List Nat} {ch : Nat} (hSB : pd_SB G h b t1 t2 cs) (htt : t2 ≠ t1) (h01 : t1 ≠ 0) (h02 : t2 ≠ 0) (hch : ch < 256) (hln : cs.length + 1 ≤ 100) : pd_M l y_SB_appendC prog_25_method_14_code 2 (some (.object "java/lang/StringBuilder")) rm_SB_appendC G h [.ref b, .int (nI ch)] Value.ref (fun r h1 => b = r ∧ pd_kx [t1, t2] h h1 ∧ pd_SB G h1 b t1 t2 (cs ++ [ch])) := by
  refine pd_M.of (by decide) (Nat.le_of_ble_eq_true rfl) ?_
  intro p e s m below meth c X hmn w ls hl
  have hx := X.1
  have hb := X.2.1
  have hl : lv_has ls 2 [(0, .ref b), (1, .int (nI ch))] := hl
  obtain ⟨v, cap, f, ml, hob, hov, hvf, hvc, hnc, hcap, hfit, hz_b, hz_v⟩ := id hSB
  have h01s := Ne.symm h01
  have h02s := Ne.symm h02
  have htts := Ne.symm htt
  refine lv_aload_n hx hb d_p25m14_0 rfl (lv_at hl 0 rfl) ?_
  refine lv_iload_n hx hb d_p25m14_1 rfl (lv_at hl 1 rfl) ?_
  refine pd_cW (a := b) (As := [.int (nI ch)]) (rest := []) X w hob rfl (c_ASB_appendC l G h (by assumption) (by assumption) (by assumption) (by assumption) (by omega) (by omega)) ok_ASB_appendC (by decide) ⟨mT_420, mT_71, mT_1481⟩ mT_419 ⟨by decide, by decide⟩ rfl hl.1 rfl (Nat.le_of_ble_eq_true rfl) d_p25m14_2 ⟨by decide, by decide⟩ (fun r1 h2 H locs hp3 w => ?_)
  refine W.widen (k := 1) (n := 200) (by decide) (by decide) ?_
  obtain ⟨e4, k5, f6⟩ := hp3
  subst e4
  refine lv_pop hx hb d_p25m14_5 rfl ?_
  refine lv_aload_n hx hb d_p25m14_6 rfl (lv_at hl 0 rfl) ?_
  exact pd_aret (v := b) X (Or.inl ⟨_, rfl⟩) w ⟨rfl, k5, f6⟩ (by decide) (by decide) d_p25m14_7
theorem d_p25m7_0 : decode prog_25_method_7_code 0 = .ok (.aload_n 0, 1) := by decide +kernel
theorem d_p25m7_1 : decode prog_25_method_7_code 1 = .ok (.aload_n 1, 1) := by decide +kernel
theorem d_p25m7_2 : decode prog_25_method_7_code 2 = .ok (.invokespecial 29, 3) := by decide +kernel
theorem d_p25m7_5 : decode prog_25_method_7_code 5 = .ok (.pop, 1) := by decide +kernel
theorem d_p25m7_6 : decode prog_25_method_7_code 6 = .ok (.aload_n 0, 1) := by decide +kernel
theorem d_p25m7_7 : decode prog_25_method_7_code 7 = .ok (.areturn, 1) := by decide +kernel
abbrev y_SB_appendS : MethodName := ⟨"java/lang/StringBuilder", "append", "(Ljava/lang/String;)Ljava/lang/StringBuilder;"⟩
theorem ok_SB_appendS : pd_ok y_SB_appendS prog_25_method_7_code 2 (some (.object "java/lang/StringBuilder")) 1 := ⟨mT_1026, mT_3, by decide, by decide +kernel⟩
abbrev rm_SB_appendS : Room := { frames := 5, cells := 1, slots := 200, locals := 113 }
set_option maxHeartbeats 4000000 in
set_option maxRecDepth 100000 in
theorem c_SB_appendS (l : Launch) (G : pd_G) (h : pd_H) {b t1 t2 : Nat} {cs : List Nat} {a : Nat} {ds : List Nat} (hSB : pd_SB G h b t1 t2 cs) (htt : t2 ≠ t1) (h01 : t1 ≠ 0) (h02 : t2 ≠ 0) (hS : pd_Str h a ds) (hln : cs.length + ds.length ≤ 100) : pd_M l y_SB_appendS prog_25_method_7_code 2 (some (.object "java/lang/StringBuilder")) rm_SB_appendS G h [.ref b, .ref a] Value.ref (fun r h1 => b = r ∧ pd_kx [t1, t2] h h1 ∧ pd_SB G h1 b t1 t2 (cs ++ ds)) := by
  refine pd_M.of (by decide) (Nat.le_of_ble_eq_true rfl) ?_
  intro p e s m below meth c X hmn w ls hl
  have hx := X.1
  have hb := X.2.1
  have hl : lv_has ls 2 [(0, .ref b), (1, .ref a)] := hl
  obtain ⟨v, cap, f, ml, hob, hov, hvf, hvc, hnc, hcap, hfit, hz_b, hz_v⟩ := id hSB
  have h01s := Ne.symm h01
  have h02s := Ne.symm h02
  have htts := Ne.symm htt
  refine lv_aload_n hx hb d_p25m7_0 rfl (lv_at hl 0 rfl) ?_
  refine lv_aload_n hx hb d_p25m7_1 rfl (lv_at hl 1 rfl) ?_
  refine pd_cW (a := b) (As := [.ref a]) (rest := []) X w hob rfl (c_ASB_appendS l G h (by assumption) (by assumption) (by assumption) (by assumption) (by assumption) (by omega)) ok_ASB_appendS (by decide) ⟨mT_1028, mT_71, mT_1488⟩ mT_1027 ⟨by decide, by decide⟩ rfl hl.1 rfl (Nat.le_of_ble_eq_true rfl) d_p25m7_2 ⟨by decide, by decide⟩ (fun r1 h2 H locs hp3 w => ?_)
  refine W.widen (k := 1) (n := 200) (by decide) (by decide) ?_
  obtain ⟨e4, k5, f6⟩ := hp3
  have f7 := hS.kx k5 (by simp [htt, htts, h01, h01s, h02, h02s])
  subst e4
  refine lv_pop hx hb d_p25m7_5 rfl ?_
  refine lv_aload_n hx hb d_p25m7_6 rfl (lv_at hl 0 rfl) ?_
  exact pd_aret (v := b) X (Or.inl ⟨_, rfl⟩) w ⟨rfl, k5, f6⟩ (by decide) (by decide) d_p25m7_7
theorem d_p25m89_0 : decode prog_25_method_89_code 0 = .ok (.aload_n 0, 1) := by decide +kernel
theorem d_p25m89_1 : decode prog_25_method_89_code 1 = .ok (.iload_n 1, 1) := by decide +kernel
theorem d_p25m89_2 : decode prog_25_method_89_code 2 = .ok (.invokespecial 333, 3) := by decide +kernel
theorem d_p25m89_5 : decode prog_25_method_89_code 5 = .ok (.return_, 1) := by decide +kernel
abbrev y_SB_setLength : MethodName := ⟨"java/lang/StringBuilder", "setLength", "(I)V"⟩
theorem ok_SB_setLength : pd_ok y_SB_setLength prog_25_method_89_code 2 none 1 := ⟨mT_556, mT_3, by decide, by decide +kernel⟩
abbrev rm_SB_setLength : Room := { frames := 5, cells := 1, slots := 200, locals := 112 }
set_option maxHeartbeats 4000000 in
set_option maxRecDepth 100000 in
theorem c_SB_setLength (l : Launch) (G : pd_G) (h : pd_H) {b t1 t2 : Nat} {cs : List Nat} (hSB : pd_SB G h b t1 t2 cs) (htt : t2 ≠ t1) (h01 : t1 ≠ 0) (h02 : t2 ≠ 0) : pd_Mv l y_SB_setLength prog_25_method_89_code 2 rm_SB_setLength G h [.ref b, .int (nI 0)] (fun h1 => pd_kx [t1, t2] h h1 ∧ pd_SB G h1 b t1 t2 []) := by
  refine pd_Mv.of (by decide) (Nat.le_of_ble_eq_true rfl) ?_
  intro p e s m below meth c X hmn w ls hl
  have hx := X.1
  have hb := X.2.1
  have hl : lv_has ls 2 [(0, .ref b), (1, .int (nI 0))] := hl
  obtain ⟨v, cap, f, ml, hob, hov, hvf, hvc, hnc, hcap, hfit, hz_b, hz_v⟩ := id hSB
  have h01s := Ne.symm h01
  have h02s := Ne.symm h02
  have htts := Ne.symm htt
  refine lv_aload_n hx hb d_p25m89_0 rfl (lv_at hl 0 rfl) ?_
  refine lv_iload_n hx hb d_p25m89_1 rfl (lv_at hl 1 rfl) ?_
  refine pd_cWv (a := b) (As := [.int (nI 0)]) (rest := []) X w hob rfl (c_ASB_setLength l G h (by assumption) (by assumption) (by assumption) (by assumption)) ok_ASB_setLength (by decide) ⟨mT_558, mT_71, mT_1486⟩ mT_557 ⟨by decide, by decide⟩ rfl hl.1 rfl (Nat.le_of_ble_eq_true rfl) d_p25m89_2 ⟨by decide, by decide⟩ (fun h2 H locs hp3 w => ?_)
  refine W.widen (k := 1) (n := 200) (by decide) (by decide) ?_
  obtain ⟨k5, f6⟩ := hp3
  exact pd_vret X w ⟨k5, f6⟩ (by decide) (by decide) d_p25m89_5
