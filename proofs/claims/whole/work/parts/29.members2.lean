theorem d_p9m3_0 : decode prog_9_method_3_code 0 = .ok (.aload_n 0, 1) := by decide +kernel
theorem d_p9m3_1 : decode prog_9_method_3_code 1 = .ok (.getfield 17, 3) := by decide +kernel
theorem d_p9m3_4 : decode prog_9_method_3_code 4 = .ok (.bipush 24, 2) := by decide +kernel
theorem d_p9m3_6 : decode prog_9_method_3_code 6 = .ok (.if_icmp .lt 6, 3) := by decide +kernel
theorem d_p9m3_9 : decode prog_9_method_3_code 9 = .ok (.bipush (-5), 2) := by decide +kernel
theorem d_p9m3_11 : decode prog_9_method_3_code 11 = .ok (.ireturn, 1) := by decide +kernel
theorem d_p9m3_12 : decode prog_9_method_3_code 12 = .ok (.aload_n 0, 1) := by decide +kernel
theorem d_p9m3_13 : decode prog_9_method_3_code 13 = .ok (.getfield 13, 3) := by decide +kernel
theorem d_p9m3_16 : decode prog_9_method_3_code 16 = .ok (.aload_n 0, 1) := by decide +kernel
theorem d_p9m3_17 : decode prog_9_method_3_code 17 = .ok (.getfield 17, 3) := by decide +kernel
theorem d_p9m3_20 : decode prog_9_method_3_code 20 = .ok (.new 11, 3) := by decide +kernel
theorem d_p9m3_23 : decode prog_9_method_3_code 23 = .ok (.dup, 1) := by decide +kernel
theorem d_p9m3_24 : decode prog_9_method_3_code 24 = .ok (.aload_n 0, 1) := by decide +kernel
theorem d_p9m3_25 : decode prog_9_method_3_code 25 = .ok (.getfield 17, 3) := by decide +kernel
theorem d_p9m3_28 : decode prog_9_method_3_code 28 = .ok (.aload_n 1, 1) := by decide +kernel
theorem d_p9m3_29 : decode prog_9_method_3_code 29 = .ok (.aload_n 2, 1) := by decide +kernel
theorem d_p9m3_30 : decode prog_9_method_3_code 30 = .ok (.aload_n 3, 1) := by decide +kernel
theorem d_p9m3_31 : decode prog_9_method_3_code 31 = .ok (.iload 4, 2) := by decide +kernel
theorem d_p9m3_33 : decode prog_9_method_3_code 33 = .ok (.invokespecial 21, 3) := by decide +kernel
theorem d_p9m3_36 : decode prog_9_method_3_code 36 = .ok (.aastore, 1) := by decide +kernel
theorem d_p9m3_37 : decode prog_9_method_3_code 37 = .ok (.aload_n 0, 1) := by decide +kernel
theorem d_p9m3_38 : decode prog_9_method_3_code 38 = .ok (.dup, 1) := by decide +kernel
theorem d_p9m3_39 : decode prog_9_method_3_code 39 = .ok (.getfield 17, 3) := by decide +kernel
theorem d_p9m3_42 : decode prog_9_method_3_code 42 = .ok (.iconst 1, 1) := by decide +kernel
theorem d_p9m3_43 : decode prog_9_method_3_code 43 = .ok (.iadd, 1) := by decide +kernel
theorem d_p9m3_44 : decode prog_9_method_3_code 44 = .ok (.putfield 17, 3) := by decide +kernel
theorem d_p9m3_47 : decode prog_9_method_3_code 47 = .ok (.aload_n 0, 1) := by decide +kernel
theorem d_p9m3_48 : decode prog_9_method_3_code 48 = .ok (.getfield 17, 3) := by decide +kernel
theorem d_p9m3_51 : decode prog_9_method_3_code 51 = .ok (.iconst 1, 1) := by decide +kernel
theorem d_p9m3_52 : decode prog_9_method_3_code 52 = .ok (.isub, 1) := by decide +kernel
theorem d_p9m3_53 : decode prog_9_method_3_code 53 = .ok (.ireturn, 1) := by decide +kernel
abbrev y_Members_add : MethodName := ⟨"PolicyDesk$Members", "add", "(LPolicyDesk$ClassRow;Ljava/lang/String;Ljava/lang/String;I)I"⟩
theorem ok_Members_add : pd_ok y_Members_add prog_9_method_3_code 5 (some .int) 4 := ⟨mT_804, mT_18, by decide, by decide +kernel⟩
abbrev rm_Members_add : Room := { frames := 5, cells := 1, slots := 6, locals := 116 }
set_option maxHeartbeats 4000000 in
set_option maxRecDepth 100000 in
theorem c_Members_add (l : Launch) (G : pd_G) (h : pd_H) {x : Nat} {A : Nat → Nat} {n : Nat} {R : Nat → pd_cr} {B : Nat → Nat} {k : Nat} {M : Nat → pd_mr} {j a a2 : Nat} {cs ds : List Nat} {mk : Nat} (hM : pd_Mems G h x A n B k M) (hR : pd_Rows G h A n R) (hjn : j < n) (hS : pd_Str h a cs) (hS2 : pd_Str h a2 ds) (hmk : mk < 4) : pd_M l y_Members_add prog_9_method_3_code 5 (some .int) rm_Members_add G h [.ref x, .ref (A j), .ref a, .ref a2, .int (nI mk)] Value.int (fun r h1 => pd_kx [9, 11, 12] h h1 ∧ r = (gr_madd k M (j, cs, ds, mk)).1 ∧ ∃ B2, (∀ i, i < k → B2 i = B i) ∧ pd_Mems G h1 x A n B2 (gr_madd k M (j, cs, ds, mk)).2.1 (gr_madd k M (j, cs, ds, mk)).2.2) := by
  refine pd_M.of (by decide) (Nat.le_of_ble_eq_true rfl) ?_
  intro p e s m below meth c X hmn w ls hl
  have hx := X.1
  have hb := X.2.1
  have hl : lv_has ls 5 [(0, .ref x), (1, .ref (A j)), (2, .ref a), (3, .ref a2), (4, .int (nI mk))] := hl
  obtain ⟨ar, f, hx0, har, hfA, hz_x, hz_ar, hk24, hMR⟩ := id hM
  have hcw := hR.2.2
  have hAi := hR.2.1
  have hn14 := hcw.1
  refine lv_aload_n hx hb d_p9m3_0 rfl (lv_at hl 0 rfl) ?_
  refine pd_get X w hx0 rfl 1 (by decide) mT_318 rfl rfl d_p9m3_1 ?_
  refine lv_bipush (v := nI 24) hx hb d_p9m3_4 (by decide) ?_
  refine pd_jlt (tgt := 12) hx hb d_p9m3_6 (by decide) (by omega) (by omega) (fun q1 => ?_) (fun q1 => ?_)
  · -- taken: 12
    refine lv_aload_n hx hb d_p9m3_12 rfl (lv_at hl 0 rfl) ?_
    refine pd_get X w hx0 rfl 0 (by decide) mT_317 rfl rfl d_p9m3_13 ?_
    refine lv_aload_n hx hb d_p9m3_16 rfl (lv_at hl 0 rfl) ?_
    refine pd_get X w hx0 rfl 1 (by decide) mT_318 rfl rfl d_p9m3_17 ?_
    refine pd_new (ci := 5) (C := "PolicyDesk$MemberRow") (T := pd_F5) (N := 6) (fs := [.int (nI 0), .null, .null, .null, .int (nI 0), .int (nI 0)]) 9 X w rfl mT_315 mT_805 mT_29 (pd_hfs (by decide +kernel)) (by decide) (by decide) d_p9m3_20 (fun q2 H hq3 hz4 w => ?_)
    refine W.widen (k := 1) (n := 6) (by decide) (by decide) ?_
    obtain ⟨h5, u8⟩ : ∃ z, z = pd_up h q2 (9, .inr (5, [.int (nI 0), .null, .null, .null, .int (nI 0), .int (nI 0)])) := ⟨_, rfl⟩
    rw [← u8] at w
    have k6 : pd_kx [] h h5 := by rw [u8]; exact pd_new_kx hq3
    have f7 : h5 q2 = some (9, .inr (5, [.int (nI 0), .null, .null, .null, .int (nI 0), .int (nI 0)])) := by rw [u8]; exact pd_up_s _ _ _
    have f9 := k6 _ _ hx0 List.not_mem_nil
    have f10 := k6 _ _ har List.not_mem_nil
    have f11 := hR.kx k6 List.not_mem_nil
    have f12 := hM.kx k6 List.not_mem_nil List.not_mem_nil List.not_mem_nil
    have f13 := hMR.kx k6 List.not_mem_nil
    have f14 := hS.kx k6 List.not_mem_nil
    have f15 := hS2.kx k6 List.not_mem_nil
    refine lv_dup hx hb d_p9m3_23 rfl ?_
    refine lv_aload_n hx hb d_p9m3_24 rfl (lv_at hl 0 rfl) ?_
    refine pd_get X w f9 rfl 1 (by decide) mT_318 rfl rfl d_p9m3_25 ?_
    refine lv_aload_n hx hb d_p9m3_28 rfl (lv_at hl 1 rfl) ?_
    refine lv_aload_n hx hb d_p9m3_29 rfl (lv_at hl 2 rfl) ?_
    refine lv_aload_n hx hb d_p9m3_30 rfl (lv_at hl 3 rfl) ?_
    refine lv_iload hx hb d_p9m3_31 (lv_at hl 4 rfl) ?_
    refine pd_cI (a := q2) (As := [.int (nI k), .ref (A j), .ref a, .ref a2, .int (nI mk)]) (rest := [.ref q2, .int (nI k), .ref ar]) X w (c_MemberRow_init l G h5 (A := A) (j := j) (by assumption) (by assumption) (by assumption) (by assumption)) ok_MemberRow_init rfl mT_807 mT_806 ⟨by decide, by decide⟩ rfl hl.1 rfl (Nat.le_of_ble_eq_true rfl) d_p9m3_33 ⟨by decide, by decide⟩ (fun h17 H locs hp18 w => ?_)
    refine W.widen (k := 1) (n := 6) (by decide) (by decide) ?_
    obtain ⟨k19, f20⟩ := hp18
    have f21 := k19 _ _ f9 (show (11 : Nat) ∉ [9] by decide)
    have f22 := k19 _ _ f10 (show (12 : Nat) ∉ [9] by decide)
    have f23 := f11.kx k19 (show (0 : Nat) ∉ [9] by decide)
    have f24 := f12.kx k19 (show (11 : Nat) ∉ [9] by decide) (show (12 : Nat) ∉ [9] by decide) (show (0 : Nat) ∉ [9] by decide)
    have f25 := f13.kx k19 (show (0 : Nat) ∉ [9] by decide)
    have f26 := f14.kx k19 (show (0 : Nat) ∉ [9] by decide)
    have f27 := f15.kx k19 (show (0 : Nat) ∉ [9] by decide)
    obtain ⟨h28, w, k29, f30⟩ := pd_MRow.tag w X.2.2.2.2.2.2.2.2.2.1 hz4 f20
    have f31 := k29 _ _ f21 (show (11 : Nat) ∉ [9] by decide)
    have f32 := k29 _ _ f22 (show (12 : Nat) ∉ [9] by decide)
    have f33 := f23.kx k29 (show (0 : Nat) ∉ [9] by decide)
    have f34 := f24.kx k29 (show (11 : Nat) ∉ [9] by decide) (show (12 : Nat) ∉ [9] by decide) (show (0 : Nat) ∉ [9] by decide)
    have f35 := f25.kx k29 (show (0 : Nat) ∉ [9] by decide)
    have f36 := f26.kx k29 (show (0 : Nat) ∉ [9] by decide)
    have f37 := f27.kx k29 (show (0 : Nat) ∉ [9] by decide)
    obtain ⟨nm38, sh39, f40, f41, f42⟩ := id f30
    refine pd_aast X w f32 hz_ar f40 rfl (Or.inl rfl) (by omega) (by omega) d_p9m3_36 (fun H locs w => ?_)
    have w : pd_w G s H locs (pd_up h28 ar (12, .inl ((.object "PolicyDesk$MemberRow"), 24, .inr (.inr (.inr (.inr (va_up f k (some q2)))))))) := w
    obtain ⟨h43, u46⟩ : ∃ z, z = pd_up h28 ar (12, .inl ((.object "PolicyDesk$MemberRow"), 24, .inr (.inr (.inr (.inr (va_up f k (some q2))))))) := ⟨_, rfl⟩
    rw [← u46] at w
    have k44 : pd_kq ar h28 h43 := by rw [u46]; exact pd_up_kq
    have f45 : h43 ar = some (12, .inl ((.object "PolicyDesk$MemberRow"), 24, .inr (.inr (.inr (.inr (va_up f k (some q2))))))) := by rw [u46]; exact pd_up_s _ _ _
    have f47 := k44 _ _ (pd_ne f31 f32 (by simp)) f31
    have f48 := k44 _ _ (pd_ne f40 f32 (by simp)) f40
    have f49 := f33.kx (pd_kq.kx k44 f32) (show (0 : Nat) ∉ [12] by decide)
    have f51 := f35.kx (pd_kq.kx k44 f32) (show (0 : Nat) ∉ [12] by decide)
    have f52 := f36.kx (pd_kq.kx k44 f32) (show (0 : Nat) ∉ [12] by decide)
    have f53 := f37.kx (pd_kq.kx k44 f32) (show (0 : Nat) ∉ [12] by decide)
    have f54 := f30.kx (pd_kq.kx k44 f32) (show (0 : Nat) ∉ [12] by decide) (show (0 : Nat) ∉ [12] by decide)
    refine lv_aload_n hx hb d_p9m3_37 rfl (lv_at hl 0 rfl) ?_
    refine lv_dup hx hb d_p9m3_38 rfl ?_
    refine pd_get X w f47 rfl 1 (by decide) mT_318 rfl rfl d_p9m3_39 ?_
    refine lv_iconst (v := nI 1) hx hb d_p9m3_42 (by decide) ?_
    refine pd_iadd hx hb d_p9m3_43 ?_
    refine pd_put (ty := .int) X w f47 hz_x rfl 1 (by decide) mT_318 rfl rfl (by decide +kernel) rfl rfl (Nat.le_of_ble_eq_true rfl) d_p9m3_44 (fun H locs w => ?_)
    have w : pd_w G s H locs (pd_up h43 x (11, .inr (6, [.ref ar, .int (nI (k + 1))]))) := w
    obtain ⟨h55, u58⟩ : ∃ z, z = pd_up h43 x (11, .inr (6, [.ref ar, .int (nI (k + 1))])) := ⟨_, rfl⟩
    rw [← u58] at w
    have k56 : pd_kq x h43 h55 := by rw [u58]; exact pd_up_kq
    have f57 : h55 x = some (11, .inr (6, [.ref ar, .int (nI (k + 1))])) := by rw [u58]; exact pd_up_s _ _ _
    have f59 := k56 _ _ (pd_ne f48 f47 (by simp)) f48
    have f60 := k56 _ _ (pd_ne f45 f47 (by simp)) f45
    have f61 := f49.kx (pd_kq.kx k56 f47) (show (0 : Nat) ∉ [11] by decide)
    have f62 := f51.kx (pd_kq.kx k56 f47) (show (0 : Nat) ∉ [11] by decide)
    have f63 := f52.kx (pd_kq.kx k56 f47) (show (0 : Nat) ∉ [11] by decide)
    have f64 := f53.kx (pd_kq.kx k56 f47) (show (0 : Nat) ∉ [11] by decide)
    have f65 := f54.kx (pd_kq.kx k56 f47) (show (0 : Nat) ∉ [11] by decide) (show (0 : Nat) ∉ [11] by decide)
    refine lv_aload_n hx hb d_p9m3_47 rfl (lv_at hl 0 rfl) ?_
    refine pd_get X w f57 rfl 1 (by decide) mT_318 rfl rfl d_p9m3_48 ?_
    refine lv_iconst (v := nI 1) hx hb d_p9m3_51 (by decide) ?_
    refine pd_isub hx hb d_p9m3_52 (by omega) ?_
    exact pd_iret (v := (nI ((k + 1) - 1))) X w ⟨pd_kx.mono (us := [9, 11, 12]) (pd_kx.tr (pd_kx.mono (us := [9, 12, 11]) (pd_kx.tr (pd_kx.mono (us := [9, 12]) (pd_kx.tr (pd_kx.tr (pd_kx.mono (us := [9]) (k6) (by simp)) (k19)) (k29)) (by simp)) (pd_kx.mono (us := [9, 12]) (pd_kq.kx (k44) f32) (by simp))) (by simp)) (pd_kx.mono (us := [9, 12, 11]) (pd_kq.kx (k56) f47) (by simp))) (by simp), (by rw [gr_madd_y (by omega), show k + 1 - 1 = k by omega]), pd_fu B k q2, (fun i hi => pd_fu_n (by omega)), (by rw [gr_madd_y (by omega)]; show pd_Mems G h55 x A n (pd_fu B k q2) (k + 1) (pd_fu M k (j, cs, ds, mk)); exact ⟨_, _, f57, f60, (fun i hi => by by_cases e9 : i = k; subst e9; rw [pd_fu_s]; unfold va_up; rw [if_pos rfl]; rw [pd_fu_n e9]; unfold va_up; rw [if_neg e9]; exact hfA i (by omega)), hz_x, hz_ar, by omega, (fun i hi => by by_cases e9 : i = k; subst e9; rw [pd_fu_s, pd_fu_s]; exact ⟨f65, hjn, hmk⟩; rw [pd_fu_n e9, pd_fu_n e9]; exact f62 i (by omega))⟩)⟩ (by decide) (by decide) d_p9m3_53
  · -- not taken: 9
    refine lv_bipush (v := -5) hx hb d_p9m3_9 (by decide) ?_
    exact pd_iret (v := (-5)) X w ⟨pd_kx.rf, (by rw [gr_madd_n (by omega)]), B, fun _ _ => rfl, (by rw [gr_madd_n (by omega)]; exact hM)⟩ (by decide) (by decide) d_p9m3_11
theorem d_p9m1_0 : decode prog_9_method_1_code 0 = .ok (.aload_n 0, 1) := by decide +kernel
theorem d_p9m1_1 : decode prog_9_method_1_code 1 = .ok (.invokespecial 3, 3) := by decide +kernel
theorem d_p9m1_4 : decode prog_9_method_1_code 4 = .ok (.aload_n 0, 1) := by decide +kernel
theorem d_p9m1_5 : decode prog_9_method_1_code 5 = .ok (.bipush 24, 2) := by decide +kernel
theorem d_p9m1_7 : decode prog_9_method_1_code 7 = .ok (.anewarray 11, 3) := by decide +kernel
theorem d_p9m1_10 : decode prog_9_method_1_code 10 = .ok (.putfield 13, 3) := by decide +kernel
theorem d_p9m1_13 : decode prog_9_method_1_code 13 = .ok (.return_, 1) := by decide +kernel
abbrev y_Members_init : MethodName := ⟨"PolicyDesk$Members", "<init>", "()V"⟩
theorem ok_Members_init : pd_ok y_Members_init prog_9_method_1_code 1 none 0 := ⟨mT_313, mT_18, by decide, by decide +kernel⟩
abbrev rm_Members_init : Room := { frames := 1, cells := 1, slots := 24, locals := 20 }
set_option maxHeartbeats 4000000 in
set_option maxRecDepth 100000 in
theorem c_Members_init (l : Launch) (G : pd_G) (h : pd_H) {x : Nat} (hx0 : h x = some (11, .inr (6, [.null, .int (nI 0)]))) (hz_x : G.2.1 ≤ x) : pd_Mv l y_Members_init prog_9_method_1_code 1 rm_Members_init G h [.ref x] (fun h1 => pd_kx [11, 12] h h1 ∧ ∀ (A : Nat → Nat) (n : Nat) (B : Nat → Nat) (M : Nat → pd_mr), pd_Mems G h1 x A n B 0 M) := by
  refine pd_Mv.of (by decide) (Nat.le_of_ble_eq_true rfl) ?_
  intro p e s m below meth c X hmn w ls hl
  have hx := X.1
  have hb := X.2.1
  have hl : lv_has ls 1 [(0, .ref x)] := hl
  refine lv_aload_n hx hb d_p9m1_0 rfl (lv_at hl 0 rfl) ?_
  refine W.objInit hx hb X.2.2.2.2.1 (X.2.2.2.2.2.1 _ mT_314) (X.2.2.2.2.2.1 _ mT_38) (X.2.2.2.2.2.1 _ mT_39) rfl (by rw [X.2.2.2.1]; exact hl.1) rfl d_p9m1_1 (by decide) (Nat.le_of_ble_eq_true rfl) ?_
  refine W.eq (g2 := F0 m 4 ls []) rfl ?_
  refine lv_aload_n hx hb d_p9m1_4 rfl (lv_at hl 0 rfl) ?_
  refine lv_bipush (v := nI 24) hx hb d_p9m1_5 (by decide) ?_
  refine pd_newq (E := "PolicyDesk$MemberRow") 12 X w mT_315 mT_316 (by omega) (by decide) (Nat.le_trans (Nat.add_le_add_left (by omega : 24 ≤ 24) _) (by decide)) d_p9m1_7 (fun q1 H hq2 hz3 w => ?_)
  refine W.widen (k := 1) (n := 24) (by decide) (by omega) ?_
  obtain ⟨h4, u7⟩ : ∃ z, z = pd_up h q1 (12, .inl ((.object "PolicyDesk$MemberRow"), 24, .inr (.inr (.inr (.inr (fun _ => none)))))) := ⟨_, rfl⟩
  rw [← u7] at w
  have k5 : pd_kx [] h h4 := by rw [u7]; exact pd_new_kx hq2
  have f6 : h4 q1 = some (12, .inl ((.object "PolicyDesk$MemberRow"), 24, .inr (.inr (.inr (.inr (fun _ => none)))))) := by rw [u7]; exact pd_up_s _ _ _
  have f8 := k5 _ _ hx0 List.not_mem_nil
  refine pd_putF (ty := (.array (.object "PolicyDesk$MemberRow"))) X w f8 hz_x rfl 0 (by decide) mT_317 rfl rfl hmn rfl (by decide +kernel) rfl rfl (Nat.le_of_ble_eq_true rfl) d_p9m1_10 (fun H locs w => ?_)
  have w : pd_w G s H locs (pd_up h4 x (11, .inr (6, [.ref q1, .int (nI 0)]))) := w
  obtain ⟨h9, u12⟩ : ∃ z, z = pd_up h4 x (11, .inr (6, [.ref q1, .int (nI 0)])) := ⟨_, rfl⟩
  rw [← u12] at w
  have k10 : pd_kq x h4 h9 := by rw [u12]; exact pd_up_kq
  have f11 : h9 x = some (11, .inr (6, [.ref q1, .int (nI 0)])) := by rw [u12]; exact pd_up_s _ _ _
  have f13 := k10 _ _ (pd_ne f6 f8 (by simp)) f6
  exact pd_vret X w ⟨pd_kx.mono (us := [11, 12]) (pd_kx.tr (pd_kx.mono (us := [11]) (k5) (by simp)) (pd_kq.kx (k10) f8)) (by simp), fun A n B M => ⟨_, _, f11, f13, (fun i hi => absurd hi (Nat.not_lt_zero i)), hz_x, hz3, Nat.zero_le _, (fun i hi => absurd hi (Nat.not_lt_zero i))⟩⟩ (by decide) (by decide) d_p9m1_13
theorem d_p9m5_0 : decode prog_9_method_5_code 0 = .ok (.iconst 0, 1) := by decide +kernel
theorem d_p9m5_1 : decode prog_9_method_5_code 1 = .ok (.istore_n 3, 1) := by decide +kernel
theorem d_p9m5_2 : decode prog_9_method_5_code 2 = .ok (.iload_n 3, 1) := by decide +kernel
theorem d_p9m5_3 : decode prog_9_method_5_code 3 = .ok (.aload_n 0, 1) := by decide +kernel
theorem d_p9m5_4 : decode prog_9_method_5_code 4 = .ok (.getfield 17, 3) := by decide +kernel
theorem d_p9m5_7 : decode prog_9_method_5_code 7 = .ok (.if_icmp .ge 57, 3) := by decide +kernel
theorem d_p9m5_10 : decode prog_9_method_5_code 10 = .ok (.aload_n 0, 1) := by decide +kernel
theorem d_p9m5_11 : decode prog_9_method_5_code 11 = .ok (.getfield 13, 3) := by decide +kernel
theorem d_p9m5_14 : decode prog_9_method_5_code 14 = .ok (.iload_n 3, 1) := by decide +kernel
theorem d_p9m5_15 : decode prog_9_method_5_code 15 = .ok (.aaload, 1) := by decide +kernel
theorem d_p9m5_16 : decode prog_9_method_5_code 16 = .ok (.getfield 24, 3) := by decide +kernel
theorem d_p9m5_19 : decode prog_9_method_5_code 19 = .ok (.aload_n 1, 1) := by decide +kernel
theorem d_p9m5_20 : decode prog_9_method_5_code 20 = .ok (.if_acmp .ne 38, 3) := by decide +kernel
theorem d_p9m5_23 : decode prog_9_method_5_code 23 = .ok (.aload_n 0, 1) := by decide +kernel
theorem d_p9m5_24 : decode prog_9_method_5_code 24 = .ok (.getfield 13, 3) := by decide +kernel
theorem d_p9m5_27 : decode prog_9_method_5_code 27 = .ok (.iload_n 3, 1) := by decide +kernel
theorem d_p9m5_28 : decode prog_9_method_5_code 28 = .ok (.aaload, 1) := by decide +kernel
theorem d_p9m5_29 : decode prog_9_method_5_code 29 = .ok (.getfield 28, 3) := by decide +kernel
theorem d_p9m5_32 : decode prog_9_method_5_code 32 = .ok (.ifCond .eq 26, 3) := by decide +kernel
theorem d_p9m5_35 : decode prog_9_method_5_code 35 = .ok (.aload_n 0, 1) := by decide +kernel
theorem d_p9m5_36 : decode prog_9_method_5_code 36 = .ok (.getfield 13, 3) := by decide +kernel
theorem d_p9m5_39 : decode prog_9_method_5_code 39 = .ok (.iload_n 3, 1) := by decide +kernel
theorem d_p9m5_40 : decode prog_9_method_5_code 40 = .ok (.aaload, 1) := by decide +kernel
theorem d_p9m5_41 : decode prog_9_method_5_code 41 = .ok (.getfield 32, 3) := by decide +kernel
theorem d_p9m5_44 : decode prog_9_method_5_code 44 = .ok (.aload_n 2, 1) := by decide +kernel
theorem d_p9m5_45 : decode prog_9_method_5_code 45 = .ok (.invokevirtual 36, 3) := by decide +kernel
theorem d_p9m5_48 : decode prog_9_method_5_code 48 = .ok (.ifCond .eq 10, 3) := by decide +kernel
theorem d_p9m5_51 : decode prog_9_method_5_code 51 = .ok (.aload_n 0, 1) := by decide +kernel
theorem d_p9m5_52 : decode prog_9_method_5_code 52 = .ok (.getfield 13, 3) := by decide +kernel
theorem d_p9m5_55 : decode prog_9_method_5_code 55 = .ok (.iload_n 3, 1) := by decide +kernel
theorem d_p9m5_56 : decode prog_9_method_5_code 56 = .ok (.aaload, 1) := by decide +kernel
theorem d_p9m5_57 : decode prog_9_method_5_code 57 = .ok (.areturn, 1) := by decide +kernel
theorem d_p9m5_58 : decode prog_9_method_5_code 58 = .ok (.iinc 3 1, 3) := by decide +kernel
theorem d_p9m5_61 : decode prog_9_method_5_code 61 = .ok (.goto (-59), 3) := by decide +kernel
theorem d_p9m5_64 : decode prog_9_method_5_code 64 = .ok (.aconst_null, 1) := by decide +kernel
theorem d_p9m5_65 : decode prog_9_method_5_code 65 = .ok (.areturn, 1) := by decide +kernel
abbrev y_Members_firstMethod : MethodName := ⟨"PolicyDesk$Members", "firstMethod", "(LPolicyDesk$ClassRow;Ljava/lang/String;)LPolicyDesk$MemberRow;"⟩
theorem ok_Members_firstMethod : pd_ok y_Members_firstMethod prog_9_method_5_code 4 (some (.object "PolicyDesk$MemberRow")) 2 := ⟨mT_853, mT_18, by decide, by decide +kernel⟩
abbrev rm_Members_firstMethod : Room := { frames := 2, cells := 0, slots := 0, locals := 44 }
set_option maxHeartbeats 4000000 in
set_option maxRecDepth 100000 in
theorem lp_Members_firstMethod_2 (l : Launch) (G : pd_G) (h : pd_H) {x : Nat} {A : Nat → Nat} {n : Nat} {R : Nat → pd_cr} {B : Nat → Nat} {k : Nat} {M : Nat → pd_mr} {j a : Nat} {cs : List Nat} (hM : pd_Mems G h x A n B k M) (hR : pd_Rows G h A n R) (hjn : j < n) (hS : pd_Str h a cs) {p : Program} {e : Env} {s : State} {m : MethodId} {below : List Frame} {meth : Method} {c : Code} (X : pd_B p s m [.ref x, .ref (A j), .ref a].toArray meth c G y_Members_firstMethod.cls prog_9_method_5_code 4 (some (.object "PolicyDesk$MemberRow"))) (hmn : meth.name = y_Members_firstMethod.name) :
    ∀ (kk9 : Nat) (i : Nat), (i ≤ k) → (∀ t, t < i → (decide ((M t).1 = j) && gr_ism (M t).2.2.1 && decide ((M t).2.1 = cs)) = false) → k - i < kk9 → ∀ (H : Heap) (locs : List Loc), pd_w G s H locs h → ∀ ls : Array Slot, lv_has ls 4 [(3, .int (nI i)), (0, .ref x), (1, .ref (A j)), (2, .ref a)] → W p l e rm_Members_firstMethod s m [.ref x, .ref (A j), .ref a].toArray below meth c H locs 0 0 (MQ below (pd_Q G va_rf (fun r h1 => r = (gr_fm M k j cs).map B ∧ h = h1)) [.ref x, .ref (A j), .ref a].toArray s rm_Members_firstMethod.cells rm_Members_firstMethod.slots (fun q => G.2.1 ≤ q)) (F0 m 2 ls []) := by
  have hx := X.1
  have hb := X.2.1
  obtain ⟨ar, f, hx0, har, hfA, hz_x, hz_ar, hk24, hMR⟩ := id hM
  have hcw := hR.2.2
  have hAi := hR.2.1
  have hn14 := hcw.1
  intro kk9
  induction kk9 with
  | zero => intros; omega
  | succ kk9 ih =>
    intro i hi hj hmu H locs w ls hl
    refine lv_iload_n hx hb d_p9m5_2 rfl (lv_at hl 0 rfl) ?_
    refine lv_aload_n hx hb d_p9m5_3 rfl (lv_at hl 1 rfl) ?_
    refine pd_get X w hx0 rfl 1 (by decide) mT_318 rfl rfl d_p9m5_4 ?_
    refine pd_jge (tgt := 64) hx hb d_p9m5_7 (by decide) (by omega) (by omega) (fun q1 => ?_) (fun q1 => ?_)
    · -- taken: 64
      refine lv_null hx hb d_p9m5_64 ?_
      refine W.eq (g2 := F0 m 65 ls [va_rf none]) rfl ?_
      exact pd_oret (v := none) X (Or.inl ⟨_, rfl⟩) w ⟨by unfold gr_fm; rw [gr_fi_none (fun t ht => hj t (by omega))]; rfl, rfl⟩ (by decide) (by decide) d_p9m5_65
    · -- not taken: 10
      refine lv_aload_n hx hb d_p9m5_10 rfl (lv_at hl 1 rfl) ?_
      refine pd_get X w hx0 rfl 0 (by decide) mT_317 rfl rfl d_p9m5_11 ?_
      refine lv_iload_n hx hb d_p9m5_14 rfl (lv_at hl 0 rfl) ?_
      refine pd_aald X w har rfl (by omega) (by omega) d_p9m5_15 ?_
      refine pd_top (v' := .ref (B i)) (by rw [hfA i (by omega)]; rfl) ?_
      obtain ⟨⟨nm2, sh3, f4, f5, f6⟩, z7, z8⟩ := hMR i (by omega)
      obtain ⟨v9, g10, f11, f12, gf13, gc14, gl15⟩ := id f5
      obtain ⟨v16, g17, f18, f19, gf20, gc21, gl22⟩ := id f6
      refine pd_get X w f4 rfl 1 (by decide) mT_814 rfl rfl d_p9m5_16 ?_
      refine lv_aload_n hx hb d_p9m5_19 rfl (lv_at hl 2 rfl) ?_
      refine lv_acmp_ne (rx := (some (A (M i).1))) (ry := (some (A j))) (tgt := 58) hx hb d_p9m5_20 (by decide) (fun q23 => ?_) (fun q23 => ?_)
      · -- taken: 58
        refine pd_iinc (k := 0) (d := 1) (lv' := [(3, .int (nI (i + 1))), (0, .ref x), (1, .ref (A j)), (2, .ref a)]) hx hb d_p9m5_58 (by decide) hl rfl (by decide) rfl (fun ls hl => ?_)
        refine lv_goto (tgt := 2) hx hb d_p9m5_61 (by decide) ?_
        exact ih (i + 1) (by omega) (fun t ht => by by_cases e8 : t = i; subst e8; exact (by show (_ && _ && _) = false; rw [decide_eq_false (fun e9 => q23 (by rw [e9]))]; rfl); exact hj t (by omega)) (by omega) _ _ w ls (lv_sub hl [0, 1, 2, 3] rfl)
      · -- not taken: 23
        refine lv_aload_n hx hb d_p9m5_23 rfl (lv_at hl 1 rfl) ?_
        refine pd_get X w hx0 rfl 0 (by decide) mT_317 rfl rfl d_p9m5_24 ?_
        refine lv_iload_n hx hb d_p9m5_27 rfl (lv_at hl 0 rfl) ?_
        refine pd_aald X w har rfl (by omega) (by omega) d_p9m5_28 ?_
        refine pd_top (v' := .ref (B i)) (by rw [hfA i (by omega)]; rfl) ?_
        refine pd_get X w f4 rfl 4 (by decide) mT_823 rfl rfl d_p9m5_29 ?_
        refine pd_beq (tgt := 58) hx hb d_p9m5_32 (by decide) (fun q24 => ?_) (fun q24 => ?_)
        · -- taken: 58
          refine pd_iinc (k := 0) (d := 1) (lv' := [(3, .int (nI (i + 1))), (0, .ref x), (1, .ref (A j)), (2, .ref a)]) hx hb d_p9m5_58 (by decide) hl rfl (by decide) rfl (fun ls hl => ?_)
          refine lv_goto (tgt := 2) hx hb d_p9m5_61 (by decide) ?_
          exact ih (i + 1) (by omega) (fun t ht => by by_cases e8 : t = i; subst e8; exact (by show (_ && _ && _) = false; rw [q24, Bool.and_false]; rfl); exact hj t (by omega)) (by omega) _ _ w ls (lv_sub hl [0, 1, 2, 3] rfl)
        · -- not taken: 35
          refine lv_aload_n hx hb d_p9m5_35 rfl (lv_at hl 1 rfl) ?_
          refine pd_get X w hx0 rfl 0 (by decide) mT_317 rfl rfl d_p9m5_36 ?_
          refine lv_iload_n hx hb d_p9m5_39 rfl (lv_at hl 0 rfl) ?_
          refine pd_aald X w har rfl (by omega) (by omega) d_p9m5_40 ?_
          refine pd_top (v' := .ref (B i)) (by rw [hfA i (by omega)]; rfl) ?_
          refine pd_get X w f4 rfl 2 (by decide) mT_818 rfl rfl d_p9m5_41 ?_
          refine lv_aload_n hx hb d_p9m5_44 rfl (lv_at hl 3 rfl) ?_
          refine pd_cV (a := nm2) (As := [.ref a]) (rest := []) X w f11 rfl (c_String_equals l G h (by assumption) (by assumption)) ok_String_equals ⟨mT_613, mT_614⟩ mT_794 ⟨by decide, by decide⟩ rfl hl.1 rfl (Nat.le_of_ble_eq_true rfl) d_p9m5_45 ⟨by decide, by decide⟩ (fun r25 h26 H locs hp27 w => ?_)
          refine W.widen (k := 0) (n := 0) (by decide) (by decide) ?_
          obtain ⟨e28, rfl⟩ := hp27
          refine pd_beq (tgt := 58) hx hb d_p9m5_48 (by decide) (fun q29 => ?_) (fun q29 => ?_)
          · -- taken: 58
            refine pd_iinc (k := 0) (d := 1) (lv' := [(3, .int (nI (i + 1))), (0, .ref x), (1, .ref (A j)), (2, .ref a)]) hx hb d_p9m5_58 (by decide) hl rfl (by decide) rfl (fun ls hl => ?_)
            refine lv_goto (tgt := 2) hx hb d_p9m5_61 (by decide) ?_
            exact ih (i + 1) (by omega) (fun t ht => by by_cases e8 : t = i; subst e8; exact (by show (_ && _ && _) = false; rw [(e28.symm.trans q29), Bool.and_false]); exact hj t (by omega)) (by omega) _ _ w ls (lv_sub hl [0, 1, 2, 3] rfl)
          · -- not taken: 51
            refine lv_aload_n hx hb d_p9m5_51 rfl (lv_at hl 1 rfl) ?_
            refine pd_get X w hx0 rfl 0 (by decide) mT_317 rfl rfl d_p9m5_52 ?_
            refine lv_iload_n hx hb d_p9m5_55 rfl (lv_at hl 0 rfl) ?_
            refine pd_aald X w har rfl (by omega) (by omega) d_p9m5_56 ?_
            refine pd_top (v' := .ref (B i)) (by rw [hfA i (by omega)]; rfl) ?_
            refine W.eq (g2 := F0 m 57 ls [va_rf (some (B i))]) rfl ?_
            exact pd_oret (v := (some (B i))) X (Or.inl ⟨_, rfl⟩) w ⟨by unfold gr_fm; rw [gr_fi_some (by omega) hj (by show (_ && _ && _) = true; rw [decide_eq_true (hAi _ _ z7 hjn (Option.some.inj q23)), q24, (e28.symm.trans q29)]; rfl)]; rfl, rfl⟩ (by decide) (by decide) d_p9m5_57
set_option maxHeartbeats 4000000 in
set_option maxRecDepth 100000 in
theorem c_Members_firstMethod (l : Launch) (G : pd_G) (h : pd_H) {x : Nat} {A : Nat → Nat} {n : Nat} {R : Nat → pd_cr} {B : Nat → Nat} {k : Nat} {M : Nat → pd_mr} {j a : Nat} {cs : List Nat} (hM : pd_Mems G h x A n B k M) (hR : pd_Rows G h A n R) (hjn : j < n) (hS : pd_Str h a cs) : pd_M l y_Members_firstMethod prog_9_method_5_code 4 (some (.object "PolicyDesk$MemberRow")) rm_Members_firstMethod G h [.ref x, .ref (A j), .ref a] va_rf (fun r h1 => r = (gr_fm M k j cs).map B ∧ h = h1) := by
  refine pd_M.of (by decide) (Nat.le_of_ble_eq_true rfl) ?_
  intro p e s m below meth c X hmn w ls hl
  have hx := X.1
  have hb := X.2.1
  have hl : lv_has ls 4 [(0, .ref x), (1, .ref (A j)), (2, .ref a)] := hl
  obtain ⟨ar, f, hx0, har, hfA, hz_x, hz_ar, hk24, hMR⟩ := id hM
  have hcw := hR.2.2
  have hAi := hR.2.1
  have hn14 := hcw.1
  refine lv_iconst (v := nI 0) hx hb d_p9m5_0 (by decide) ?_
  refine lv_istore_n (lv' := [(3, .int (nI 0)), (0, .ref x), (1, .ref (A j)), (2, .ref a)]) hx hb d_p9m5_1 rfl hl (by decide) rfl (fun ls hl => ?_)
  exact lp_Members_firstMethod_2 l G h hM hR hjn hS X hmn (k + 1) 0 (by omega) (fun t ht => absurd ht (Nat.not_lt_zero t)) (by omega) _ _ w ls (lv_sub hl [0, 1, 2, 3] rfl)
theorem d_p9m6_0 : decode prog_9_method_6_code 0 = .ok (.iconst 0, 1) := by decide +kernel
theorem d_p9m6_1 : decode prog_9_method_6_code 1 = .ok (.istore 4, 2) := by decide +kernel
theorem d_p9m6_3 : decode prog_9_method_6_code 3 = .ok (.iload 4, 2) := by decide +kernel
theorem d_p9m6_5 : decode prog_9_method_6_code 5 = .ok (.aload_n 0, 1) := by decide +kernel
theorem d_p9m6_6 : decode prog_9_method_6_code 6 = .ok (.getfield 17, 3) := by decide +kernel
theorem d_p9m6_9 : decode prog_9_method_6_code 9 = .ok (.if_icmp .ge 54, 3) := by decide +kernel
theorem d_p9m6_12 : decode prog_9_method_6_code 12 = .ok (.aload_n 0, 1) := by decide +kernel
theorem d_p9m6_13 : decode prog_9_method_6_code 13 = .ok (.getfield 13, 3) := by decide +kernel
theorem d_p9m6_16 : decode prog_9_method_6_code 16 = .ok (.iload 4, 2) := by decide +kernel
theorem d_p9m6_18 : decode prog_9_method_6_code 18 = .ok (.aaload, 1) := by decide +kernel
theorem d_p9m6_19 : decode prog_9_method_6_code 19 = .ok (.astore 5, 2) := by decide +kernel
theorem d_p9m6_21 : decode prog_9_method_6_code 21 = .ok (.aload 5, 2) := by decide +kernel
theorem d_p9m6_23 : decode prog_9_method_6_code 23 = .ok (.getfield 24, 3) := by decide +kernel
theorem d_p9m6_26 : decode prog_9_method_6_code 26 = .ok (.aload_n 1, 1) := by decide +kernel
theorem d_p9m6_27 : decode prog_9_method_6_code 27 = .ok (.if_acmp .ne 30, 3) := by decide +kernel
theorem d_p9m6_30 : decode prog_9_method_6_code 30 = .ok (.aload 5, 2) := by decide +kernel
theorem d_p9m6_32 : decode prog_9_method_6_code 32 = .ok (.getfield 32, 3) := by decide +kernel
theorem d_p9m6_35 : decode prog_9_method_6_code 35 = .ok (.aload_n 2, 1) := by decide +kernel
theorem d_p9m6_36 : decode prog_9_method_6_code 36 = .ok (.invokevirtual 36, 3) := by decide +kernel
theorem d_p9m6_39 : decode prog_9_method_6_code 39 = .ok (.ifCond .eq 18, 3) := by decide +kernel
theorem d_p9m6_42 : decode prog_9_method_6_code 42 = .ok (.aload 5, 2) := by decide +kernel
theorem d_p9m6_44 : decode prog_9_method_6_code 44 = .ok (.getfield 42, 3) := by decide +kernel
theorem d_p9m6_47 : decode prog_9_method_6_code 47 = .ok (.aload_n 3, 1) := by decide +kernel
theorem d_p9m6_48 : decode prog_9_method_6_code 48 = .ok (.invokevirtual 36, 3) := by decide +kernel
theorem d_p9m6_51 : decode prog_9_method_6_code 51 = .ok (.ifCond .eq 6, 3) := by decide +kernel
theorem d_p9m6_54 : decode prog_9_method_6_code 54 = .ok (.aload 5, 2) := by decide +kernel
theorem d_p9m6_56 : decode prog_9_method_6_code 56 = .ok (.areturn, 1) := by decide +kernel
theorem d_p9m6_57 : decode prog_9_method_6_code 57 = .ok (.iinc 4 1, 3) := by decide +kernel
theorem d_p9m6_60 : decode prog_9_method_6_code 60 = .ok (.goto (-57), 3) := by decide +kernel
theorem d_p9m6_63 : decode prog_9_method_6_code 63 = .ok (.aconst_null, 1) := by decide +kernel
theorem d_p9m6_64 : decode prog_9_method_6_code 64 = .ok (.areturn, 1) := by decide +kernel
abbrev y_Members_declared : MethodName := ⟨"PolicyDesk$Members", "declared", "(LPolicyDesk$ClassRow;Ljava/lang/String;Ljava/lang/String;)LPolicyDesk$MemberRow;"⟩
theorem ok_Members_declared : pd_ok y_Members_declared prog_9_method_6_code 6 (some (.object "PolicyDesk$MemberRow")) 3 := ⟨mT_793, mT_18, by decide, by decide +kernel⟩
abbrev rm_Members_declared : Room := { frames := 2, cells := 0, slots := 0, locals := 44 }
set_option maxHeartbeats 4000000 in
set_option maxRecDepth 100000 in
theorem lp_Members_declared_3 (l : Launch) (G : pd_G) (h : pd_H) {x : Nat} {A : Nat → Nat} {n : Nat} {R : Nat → pd_cr} {B : Nat → Nat} {k : Nat} {M : Nat → pd_mr} {j a a2 : Nat} {cs ds : List Nat} (hM : pd_Mems G h x A n B k M) (hR : pd_Rows G h A n R) (hjn : j < n) (hS : pd_Str h a cs) (hS2 : pd_Str h a2 ds) {p : Program} {e : Env} {s : State} {m : MethodId} {below : List Frame} {meth : Method} {c : Code} (X : pd_B p s m [.ref x, .ref (A j), .ref a, .ref a2].toArray meth c G y_Members_declared.cls prog_9_method_6_code 6 (some (.object "PolicyDesk$MemberRow"))) (hmn : meth.name = y_Members_declared.name) :
    ∀ (kk9 : Nat) (i : Nat), (i ≤ k) → (∀ t, t < i → (decide ((M t).1 = j) && decide ((M t).2.1 = cs) && decide ((M t).2.2.1 = ds)) = false) → k - i < kk9 → ∀ (H : Heap) (locs : List Loc), pd_w G s H locs h → ∀ ls : Array Slot, lv_has ls 6 [(4, .int (nI i)), (0, .ref x), (1, .ref (A j)), (2, .ref a), (3, .ref a2)] → W p l e rm_Members_declared s m [.ref x, .ref (A j), .ref a, .ref a2].toArray below meth c H locs 0 0 (MQ below (pd_Q G va_rf (fun r h1 => r = (gr_decl M k j cs ds).map B ∧ h = h1)) [.ref x, .ref (A j), .ref a, .ref a2].toArray s rm_Members_declared.cells rm_Members_declared.slots (fun q => G.2.1 ≤ q)) (F0 m 3 ls []) := by
  have hx := X.1
  have hb := X.2.1
  obtain ⟨ar, f, hx0, har, hfA, hz_x, hz_ar, hk24, hMR⟩ := id hM
  have hcw := hR.2.2
  have hAi := hR.2.1
  have hn14 := hcw.1
  intro kk9
  induction kk9 with
  | zero => intros; omega
  | succ kk9 ih =>
    intro i hi hj hmu H locs w ls hl
    refine lv_iload hx hb d_p9m6_3 (lv_at hl 0 rfl) ?_
    refine lv_aload_n hx hb d_p9m6_5 rfl (lv_at hl 1 rfl) ?_
    refine pd_get X w hx0 rfl 1 (by decide) mT_318 rfl rfl d_p9m6_6 ?_
    refine pd_jge (tgt := 63) hx hb d_p9m6_9 (by decide) (by omega) (by omega) (fun q1 => ?_) (fun q1 => ?_)
    · -- taken: 63
      refine lv_null hx hb d_p9m6_63 ?_
      refine W.eq (g2 := F0 m 64 ls [va_rf none]) rfl ?_
      exact pd_oret (v := none) X (Or.inl ⟨_, rfl⟩) w ⟨by unfold gr_decl; rw [gr_fi_none (fun t ht => hj t (by omega))]; rfl, rfl⟩ (by decide) (by decide) d_p9m6_64
    · -- not taken: 12
      refine lv_aload_n hx hb d_p9m6_12 rfl (lv_at hl 1 rfl) ?_
      refine pd_get X w hx0 rfl 0 (by decide) mT_317 rfl rfl d_p9m6_13 ?_
      refine lv_iload hx hb d_p9m6_16 (lv_at hl 0 rfl) ?_
      refine pd_aald X w har rfl (by omega) (by omega) d_p9m6_18 ?_
      refine pd_top (v' := .ref (B i)) (by rw [hfA i (by omega)]; rfl) ?_
      refine lv_astore (lv' := [(5, .ref (B i)), (4, .int (nI i)), (0, .ref x), (1, .ref (A j)), (2, .ref a), (3, .ref a2)]) hx hb d_p9m6_19 hl (by decide) rfl (fun ls hl => ?_)
      refine lv_aload hx hb d_p9m6_21 (lv_at hl 0 rfl) ?_
      obtain ⟨⟨nm2, sh3, f4, f5, f6⟩, z7, z8⟩ := hMR i (by omega)
      obtain ⟨v9, g10, f11, f12, gf13, gc14, gl15⟩ := id f5
      obtain ⟨v16, g17, f18, f19, gf20, gc21, gl22⟩ := id f6
      refine pd_get X w f4 rfl 1 (by decide) mT_814 rfl rfl d_p9m6_23 ?_
      refine lv_aload_n hx hb d_p9m6_26 rfl (lv_at hl 3 rfl) ?_
      refine lv_acmp_ne (rx := (some (A (M i).1))) (ry := (some (A j))) (tgt := 57) hx hb d_p9m6_27 (by decide) (fun q23 => ?_) (fun q23 => ?_)
      · -- taken: 57
        refine pd_iinc (k := 1) (d := 1) (lv' := [(4, .int (nI (i + 1))), (5, .ref (B i)), (0, .ref x), (1, .ref (A j)), (2, .ref a), (3, .ref a2)]) hx hb d_p9m6_57 (by decide) hl rfl (by decide) rfl (fun ls hl => ?_)
        refine lv_goto (tgt := 3) hx hb d_p9m6_60 (by decide) ?_
        exact ih (i + 1) (by omega) (fun t ht => by by_cases e8 : t = i; subst e8; exact (by show (_ && _ && _) = false; rw [decide_eq_false (fun e9 => q23 (by rw [e9]))]; rfl); exact hj t (by omega)) (by omega) _ _ w ls (lv_sub hl [0, 2, 3, 4, 5] rfl)
      · -- not taken: 30
        refine lv_aload hx hb d_p9m6_30 (lv_at hl 0 rfl) ?_
        refine pd_get X w f4 rfl 2 (by decide) mT_818 rfl rfl d_p9m6_32 ?_
        refine lv_aload_n hx hb d_p9m6_35 rfl (lv_at hl 4 rfl) ?_
        refine pd_cV (a := nm2) (As := [.ref a]) (rest := []) X w f11 rfl (c_String_equals l G h (by assumption) (by assumption)) ok_String_equals ⟨mT_613, mT_614⟩ mT_794 ⟨by decide, by decide⟩ rfl hl.1 rfl (Nat.le_of_ble_eq_true rfl) d_p9m6_36 ⟨by decide, by decide⟩ (fun r24 h25 H locs hp26 w => ?_)
        refine W.widen (k := 0) (n := 0) (by decide) (by decide) ?_
        obtain ⟨e27, rfl⟩ := hp26
        refine pd_beq (tgt := 57) hx hb d_p9m6_39 (by decide) (fun q28 => ?_) (fun q28 => ?_)
        · -- taken: 57
          refine pd_iinc (k := 1) (d := 1) (lv' := [(4, .int (nI (i + 1))), (5, .ref (B i)), (0, .ref x), (1, .ref (A j)), (2, .ref a), (3, .ref a2)]) hx hb d_p9m6_57 (by decide) hl rfl (by decide) rfl (fun ls hl => ?_)
          refine lv_goto (tgt := 3) hx hb d_p9m6_60 (by decide) ?_
          exact ih (i + 1) (by omega) (fun t ht => by by_cases e8 : t = i; subst e8; exact (by show (_ && _ && _) = false; rw [(e27.symm.trans q28), Bool.and_false]; rfl); exact hj t (by omega)) (by omega) _ _ w ls (lv_sub hl [0, 2, 3, 4, 5] rfl)
        · -- not taken: 42
          refine lv_aload hx hb d_p9m6_42 (lv_at hl 0 rfl) ?_
          refine pd_get X w f4 rfl 3 (by decide) mT_821 rfl rfl d_p9m6_44 ?_
          refine lv_aload_n hx hb d_p9m6_47 rfl (lv_at hl 5 rfl) ?_
          refine pd_cV (a := sh3) (As := [.ref a2]) (rest := []) X w f18 rfl (c_String_equals l G h (by assumption) (by assumption)) ok_String_equals ⟨mT_613, mT_614⟩ mT_794 ⟨by decide, by decide⟩ rfl hl.1 rfl (Nat.le_of_ble_eq_true rfl) d_p9m6_48 ⟨by decide, by decide⟩ (fun r29 h30 H locs hp31 w => ?_)
          refine W.widen (k := 0) (n := 0) (by decide) (by decide) ?_
          obtain ⟨e32, rfl⟩ := hp31
          refine pd_beq (tgt := 57) hx hb d_p9m6_51 (by decide) (fun q33 => ?_) (fun q33 => ?_)
          · -- taken: 57
            refine pd_iinc (k := 1) (d := 1) (lv' := [(4, .int (nI (i + 1))), (5, .ref (B i)), (0, .ref x), (1, .ref (A j)), (2, .ref a), (3, .ref a2)]) hx hb d_p9m6_57 (by decide) hl rfl (by decide) rfl (fun ls hl => ?_)
            refine lv_goto (tgt := 3) hx hb d_p9m6_60 (by decide) ?_
            exact ih (i + 1) (by omega) (fun t ht => by by_cases e8 : t = i; subst e8; exact (by show (_ && _ && _) = false; rw [(e32.symm.trans q33), Bool.and_false]); exact hj t (by omega)) (by omega) _ _ w ls (lv_sub hl [0, 2, 3, 4, 5] rfl)
          · -- not taken: 54
            refine lv_aload hx hb d_p9m6_54 (lv_at hl 0 rfl) ?_
            refine W.eq (g2 := F0 m 56 ls [va_rf (some (B i))]) rfl ?_
            exact pd_oret (v := (some (B i))) X (Or.inl ⟨_, rfl⟩) w ⟨by unfold gr_decl; rw [gr_fi_some (by omega) hj (by show (_ && _ && _) = true; rw [decide_eq_true (hAi _ _ z7 hjn (Option.some.inj q23)), (e27.symm.trans q28), (e32.symm.trans q33)]; rfl)]; rfl, rfl⟩ (by decide) (by decide) d_p9m6_56
set_option maxHeartbeats 4000000 in
set_option maxRecDepth 100000 in
theorem c_Members_declared (l : Launch) (G : pd_G) (h : pd_H) {x : Nat} {A : Nat → Nat} {n : Nat} {R : Nat → pd_cr} {B : Nat → Nat} {k : Nat} {M : Nat → pd_mr} {j a a2 : Nat} {cs ds : List Nat} (hM : pd_Mems G h x A n B k M) (hR : pd_Rows G h A n R) (hjn : j < n) (hS : pd_Str h a cs) (hS2 : pd_Str h a2 ds) : pd_M l y_Members_declared prog_9_method_6_code 6 (some (.object "PolicyDesk$MemberRow")) rm_Members_declared G h [.ref x, .ref (A j), .ref a, .ref a2] va_rf (fun r h1 => r = (gr_decl M k j cs ds).map B ∧ h = h1) := by
  refine pd_M.of (by decide) (Nat.le_of_ble_eq_true rfl) ?_
  intro p e s m below meth c X hmn w ls hl
  have hx := X.1
  have hb := X.2.1
  have hl : lv_has ls 6 [(0, .ref x), (1, .ref (A j)), (2, .ref a), (3, .ref a2)] := hl
  obtain ⟨ar, f, hx0, har, hfA, hz_x, hz_ar, hk24, hMR⟩ := id hM
  have hcw := hR.2.2
  have hAi := hR.2.1
  have hn14 := hcw.1
  refine lv_iconst (v := nI 0) hx hb d_p9m6_0 (by decide) ?_
  refine lv_istore (lv' := [(4, .int (nI 0)), (0, .ref x), (1, .ref (A j)), (2, .ref a), (3, .ref a2)]) hx hb d_p9m6_1 hl (by decide) rfl (fun ls hl => ?_)
  exact lp_Members_declared_3 l G h hM hR hjn hS hS2 X hmn (k + 1) 0 (by omega) (fun t ht => absurd ht (Nat.not_lt_zero t)) (by omega) _ _ w ls (lv_sub hl [0, 1, 2, 3, 4] rfl)
theorem gr_dif_y {M : Nat → pd_mr} {k i b : Nat} {fc cs ds : List Nat} (h : i < fc.length) (q : gr_decl M k (fc.getD i 0) cs ds = some b) : gr_dif M k (fc.drop i) cs ds = some b := by
  rw [tx_drop h]
  unfold gr_dif
  rw [List.findSome?_cons, q]
theorem gr_dif_n {M : Nat → pd_mr} {k i : Nat} {fc cs ds : List Nat} (h : i < fc.length) (q : gr_decl M k (fc.getD i 0) cs ds = none) : gr_dif M k (fc.drop i) cs ds = gr_dif M k (fc.drop (i + 1)) cs ds := by
  rw [tx_drop h]
  unfold gr_dif
  rw [List.findSome?_cons, q]
theorem gr_dif_e {M : Nat → pd_mr} {k i : Nat} {fc cs ds : List Nat} (h : fc.length ≤ i) : gr_dif M k (fc.drop i) cs ds = none := by
  rw [List.drop_eq_nil_of_le h]
  rfl
theorem gr_dif_lt {M : Nat → pd_mr} {k b : Nat} {fc cs ds : List Nat} (h : gr_dif M k fc cs ds = some b) : b < k := by
  obtain ⟨j, _, hj⟩ := List.exists_of_findSome?_eq_some h
  exact gr_fi_lt hj
/-- a field, through the classes above: fuel, the row -/
def gr_ff (R : Nat → pd_cr) (M : Nat → pd_mr) (k : Nat) (cs ds : List Nat) : Nat → Option Nat → Option Nat
  | 0, _ => none
  | _ + 1, none => none
  | e + 1, some i => match gr_decl M k i cs ds with
    | some b => some b
    | none => match gr_dif M k (R i).2.2.2.2.2.2 cs ds with
      | some b => some b
      | none => gr_ff R M k cs ds e (R i).2.2.1
def gr_f1 (R : Nat → pd_cr) (M : Nat → pd_mr) (k : Nat) (cs ds : List Nat) : Nat → Option Nat → Option Nat
  | 0, _ => none
  | _ + 1, none => none
  | e + 1, some i => match gr_decl M k i cs ds with
    | some b => some b
    | none => gr_f1 R M k cs ds e (R i).2.2.1
def gr_f2 (R : Nat → pd_cr) (M : Nat → pd_mr) (k : Nat) (cs ds : List Nat) : Nat → Option Nat → Option Nat
  | 0, _ => none
  | _ + 1, none => none
  | e + 1, some i => match gr_dif M k (R i).2.2.2.2.2.2 cs ds with
    | some b => some b
    | none => gr_f2 R M k cs ds e (R i).2.2.1
def gr_meth (R : Nat → pd_cr) (M : Nat → pd_mr) (k : Nat) (cs ds : List Nat) (i : Nat) : Option Nat := (gr_f1 R M k cs ds 14 (some i)).or (gr_f2 R M k cs ds 14 (some i))
theorem gr_ff_0 {R : Nat → pd_cr} {M : Nat → pd_mr} {k e : Nat} {cs ds : List Nat} : gr_ff R M k cs ds e none = none := by cases e <;> rfl
theorem gr_f1_0 {R : Nat → pd_cr} {M : Nat → pd_mr} {k e : Nat} {cs ds : List Nat} : gr_f1 R M k cs ds e none = none := by cases e <;> rfl
theorem gr_f2_0 {R : Nat → pd_cr} {M : Nat → pd_mr} {k e : Nat} {cs ds : List Nat} : gr_f2 R M k cs ds e none = none := by cases e <;> rfl
theorem gr_ff_a {R : Nat → pd_cr} {M : Nat → pd_mr} {k e i b : Nat} {cs ds : List Nat} (h : i < e) (q : gr_decl M k i cs ds = some b) : gr_ff R M k cs ds e (some i) = some b := by
  obtain ⟨e, rfl⟩ : ∃ z, e = z + 1 := ⟨e - 1, by omega⟩
  rw [gr_ff, q]
theorem gr_ff_b {R : Nat → pd_cr} {M : Nat → pd_mr} {k e i b : Nat} {cs ds : List Nat} (h : i < e) (q : gr_decl M k i cs ds = none) (q2 : gr_dif M k (R i).2.2.2.2.2.2 cs ds = some b) : gr_ff R M k cs ds e (some i) = some b := by
  obtain ⟨e, rfl⟩ : ∃ z, e = z + 1 := ⟨e - 1, by omega⟩
  rw [gr_ff, q, q2]
theorem gr_ff_c {R : Nat → pd_cr} {M : Nat → pd_mr} {k e i : Nat} {cs ds : List Nat} (h : i < e) (q : gr_decl M k i cs ds = none) (q2 : gr_dif M k (R i).2.2.2.2.2.2 cs ds = none) : gr_ff R M k cs ds e (some i) = gr_ff R M k cs ds (e - 1) (R i).2.2.1 := by
  obtain ⟨e, rfl⟩ : ∃ z, e = z + 1 := ⟨e - 1, by omega⟩
  rw [gr_ff, q, q2]
  rfl
theorem gr_f1_a {R : Nat → pd_cr} {M : Nat → pd_mr} {k e i b : Nat} {cs ds : List Nat} (h : i < e) (q : gr_decl M k i cs ds = some b) : gr_f1 R M k cs ds e (some i) = some b := by
  obtain ⟨e, rfl⟩ : ∃ z, e = z + 1 := ⟨e - 1, by omega⟩
  rw [gr_f1, q]
theorem gr_f1_c {R : Nat → pd_cr} {M : Nat → pd_mr} {k e i : Nat} {cs ds : List Nat} (h : i < e) (q : gr_decl M k i cs ds = none) : gr_f1 R M k cs ds e (some i) = gr_f1 R M k cs ds (e - 1) (R i).2.2.1 := by
  obtain ⟨e, rfl⟩ : ∃ z, e = z + 1 := ⟨e - 1, by omega⟩
  rw [gr_f1, q]
  rfl
theorem gr_f2_a {R : Nat → pd_cr} {M : Nat → pd_mr} {k e i b : Nat} {cs ds : List Nat} (h : i < e) (q : gr_dif M k (R i).2.2.2.2.2.2 cs ds = some b) : gr_f2 R M k cs ds e (some i) = some b := by
  obtain ⟨e, rfl⟩ : ∃ z, e = z + 1 := ⟨e - 1, by omega⟩
  rw [gr_f2, q]
theorem gr_f2_c {R : Nat → pd_cr} {M : Nat → pd_mr} {k e i : Nat} {cs ds : List Nat} (h : i < e) (q : gr_dif M k (R i).2.2.2.2.2.2 cs ds = none) : gr_f2 R M k cs ds e (some i) = gr_f2 R M k cs ds (e - 1) (R i).2.2.1 := by
  obtain ⟨e, rfl⟩ : ∃ z, e = z + 1 := ⟨e - 1, by omega⟩
  rw [gr_f2, q]
  rfl
theorem gr_f1_lt {R : Nat → pd_cr} {M : Nat → pd_mr} {k : Nat} {cs ds : List Nat} : ∀ {e : Nat} {o : Option Nat} {b : Nat}, gr_f1 R M k cs ds e o = some b → b < k
  | 0, _, _, h => by rw [gr_f1] at h; cases h
  | e + 1, none, _, h => by rw [gr_f1] at h; cases h
  | e + 1, some i, _, h => by
    rw [gr_f1] at h
    split at h
    · rename_i z
      exact gr_fi_lt (z.trans h)
    · exact gr_f1_lt h
theorem gr_f2_lt {R : Nat → pd_cr} {M : Nat → pd_mr} {k : Nat} {cs ds : List Nat} : ∀ {e : Nat} {o : Option Nat} {b : Nat}, gr_f2 R M k cs ds e o = some b → b < k
  | 0, _, _, h => by rw [gr_f2] at h; cases h
  | e + 1, none, _, h => by rw [gr_f2] at h; cases h
  | e + 1, some i, _, h => by
    rw [gr_f2] at h
    split at h
    · rename_i z
      exact gr_dif_lt (z.trans h)
    · exact gr_f2_lt h
theorem gr_ff_lt {R : Nat → pd_cr} {M : Nat → pd_mr} {k : Nat} {cs ds : List Nat} : ∀ {e : Nat} {o : Option Nat} {b : Nat}, gr_ff R M k cs ds e o = some b → b < k
  | 0, _, _, h => by rw [gr_ff] at h; cases h
  | e + 1, none, _, h => by rw [gr_ff] at h; cases h
  | e + 1, some i, _, h => by
    rw [gr_ff] at h
    split at h
    · rename_i z
      exact gr_fi_lt (z.trans h)
    · split at h
      · rename_i z
        exact gr_dif_lt (z.trans h)
      · exact gr_ff_lt h
theorem gr_meth_lt {R : Nat → pd_cr} {M : Nat → pd_mr} {k i b : Nat} {cs ds : List Nat} (h : gr_meth R M k cs ds i = some b) : b < k := by
  unfold gr_meth at h
  cases z : gr_f1 R M k cs ds 14 (some i) with
  | none => rw [z] at h; exact gr_f2_lt h
  | some y => rw [z] at h; cases h; exact gr_f1_lt z
theorem d_p9m9_0 : decode prog_9_method_9_code 0 = .ok (.iconst 0, 1) := by decide +kernel
theorem d_p9m9_1 : decode prog_9_method_9_code 1 = .ok (.istore 4, 2) := by decide +kernel
theorem d_p9m9_3 : decode prog_9_method_9_code 3 = .ok (.iload 4, 2) := by decide +kernel
theorem d_p9m9_5 : decode prog_9_method_9_code 5 = .ok (.aload_n 1, 1) := by decide +kernel
theorem d_p9m9_6 : decode prog_9_method_9_code 6 = .ok (.getfield 57, 3) := by decide +kernel
theorem d_p9m9_9 : decode prog_9_method_9_code 9 = .ok (.invokevirtual 61, 3) := by decide +kernel
theorem d_p9m9_12 : decode prog_9_method_9_code 12 = .ok (.if_icmp .ge 37, 3) := by decide +kernel
theorem d_p9m9_15 : decode prog_9_method_9_code 15 = .ok (.aload_n 0, 1) := by decide +kernel
theorem d_p9m9_16 : decode prog_9_method_9_code 16 = .ok (.aload_n 1, 1) := by decide +kernel
theorem d_p9m9_17 : decode prog_9_method_9_code 17 = .ok (.getfield 57, 3) := by decide +kernel
theorem d_p9m9_20 : decode prog_9_method_9_code 20 = .ok (.iload 4, 2) := by decide +kernel
theorem d_p9m9_22 : decode prog_9_method_9_code 22 = .ok (.invokevirtual 66, 3) := by decide +kernel
theorem d_p9m9_25 : decode prog_9_method_9_code 25 = .ok (.checkcast 53, 3) := by decide +kernel
theorem d_p9m9_28 : decode prog_9_method_9_code 28 = .ok (.aload_n 2, 1) := by decide +kernel
theorem d_p9m9_29 : decode prog_9_method_9_code 29 = .ok (.aload_n 3, 1) := by decide +kernel
theorem d_p9m9_30 : decode prog_9_method_9_code 30 = .ok (.invokevirtual 45, 3) := by decide +kernel
theorem d_p9m9_33 : decode prog_9_method_9_code 33 = .ok (.astore 5, 2) := by decide +kernel
theorem d_p9m9_35 : decode prog_9_method_9_code 35 = .ok (.aload 5, 2) := by decide +kernel
theorem d_p9m9_37 : decode prog_9_method_9_code 37 = .ok (.ifnull 6, 3) := by decide +kernel
theorem d_p9m9_40 : decode prog_9_method_9_code 40 = .ok (.aload 5, 2) := by decide +kernel
theorem d_p9m9_42 : decode prog_9_method_9_code 42 = .ok (.areturn, 1) := by decide +kernel
theorem d_p9m9_43 : decode prog_9_method_9_code 43 = .ok (.iinc 4 1, 3) := by decide +kernel
theorem d_p9m9_46 : decode prog_9_method_9_code 46 = .ok (.goto (-43), 3) := by decide +kernel
theorem d_p9m9_49 : decode prog_9_method_9_code 49 = .ok (.aconst_null, 1) := by decide +kernel
theorem d_p9m9_50 : decode prog_9_method_9_code 50 = .ok (.areturn, 1) := by decide +kernel
abbrev y_Members_declaredInFaces : MethodName := ⟨"PolicyDesk$Members", "declaredInFaces", "(LPolicyDesk$ClassRow;Ljava/lang/String;Ljava/lang/String;)LPolicyDesk$MemberRow;"⟩
theorem ok_Members_declaredInFaces : pd_ok y_Members_declaredInFaces prog_9_method_9_code 6 (some (.object "PolicyDesk$MemberRow")) 3 := ⟨mT_940, mT_18, by decide, by decide +kernel⟩
abbrev rm_Members_declaredInFaces : Room := { frames := 3, cells := 0, slots := 0, locals := 69 }
set_option maxHeartbeats 4000000 in
set_option maxRecDepth 100000 in
theorem lp_Members_declaredInFaces_3 (l : Launch) (G : pd_G) (h : pd_H) {x : Nat} {A : Nat → Nat} {n : Nat} {R : Nat → pd_cr} {B : Nat → Nat} {k : Nat} {M : Nat → pd_mr} {j a a2 : Nat} {cs ds : List Nat} (hM : pd_Mems G h x A n B k M) (hR : pd_Rows G h A n R) (hjn : j < n) (hS : pd_Str h a cs) (hS2 : pd_Str h a2 ds) {p : Program} {e : Env} {s : State} {m : MethodId} {below : List Frame} {meth : Method} {c : Code} (X : pd_B p s m [.ref x, .ref (A j), .ref a, .ref a2].toArray meth c G y_Members_declaredInFaces.cls prog_9_method_9_code 6 (some (.object "PolicyDesk$MemberRow"))) (hmn : meth.name = y_Members_declaredInFaces.name) :
    ∀ (kk9 : Nat) (i : Nat), (i ≤ 20) → (gr_dif M k ((R j).2.2.2.2.2.2.drop i) cs ds = gr_dif M k (R j).2.2.2.2.2.2 cs ds) → 20 - i < kk9 → ∀ (H : Heap) (locs : List Loc), pd_w G s H locs h → ∀ ls : Array Slot, lv_has ls 6 [(4, .int (nI i)), (0, .ref x), (1, .ref (A j)), (2, .ref a), (3, .ref a2)] → W p l e rm_Members_declaredInFaces s m [.ref x, .ref (A j), .ref a, .ref a2].toArray below meth c H locs 0 0 (MQ below (pd_Q G va_rf (fun r h1 => r = (gr_dif M k (R j).2.2.2.2.2.2 cs ds).map B ∧ h = h1)) [.ref x, .ref (A j), .ref a, .ref a2].toArray s rm_Members_declaredInFaces.cells rm_Members_declaredInFaces.slots (fun q => G.2.1 ≤ q)) (F0 m 3 ls []) := by
  have hx := X.1
  have hb := X.2.1
  obtain ⟨ar, f, hx0, har, hfA, hz_x, hz_ar, hk24, hMR⟩ := id hM
  have hcw := hR.2.2
  have hAi := hR.2.1
  have hn14 := hcw.1
  intro kk9
  induction kk9 with
  | zero => intros; omega
  | succ kk9 ih =>
    intro i hi hv hmu H locs w ls hl
    have hfl : (R j).2.2.2.2.2.2.length ≤ 13 := by have z := nd_len j _ (hcw.2 j hjn).2.2.2.2 (hcw.2 j hjn).2.2.2.1; omega
    refine lv_iload hx hb d_p9m9_3 (lv_at hl 0 rfl) ?_
    refine lv_aload_n hx hb d_p9m9_5 rfl (lv_at hl 2 rfl) ?_
    obtain ⟨nm1, fx2, f3, f4, f5⟩ := hR.1 j (by omega)
    obtain ⟨v6, g7, f8, f9, gf10, gc11, gl12⟩ := id f4
    obtain ⟨v13, cap14, g15, f16, z17, z18, z19, z20, z21⟩ := id f5
    refine pd_get X w f3 rfl 6 (by decide) mT_269 rfl rfl d_p9m9_6 ?_
    refine pd_cV (a := fx2) (As := []) (rest := [.int (nI i)]) X w f16 rfl (c_AL_size l G h (by assumption)) ok_AL_size ⟨mT_175, mT_176⟩ mT_941 ⟨by decide, by decide⟩ rfl hl.1 rfl (Nat.le_of_ble_eq_true rfl) d_p9m9_9 ⟨by decide, by decide⟩ (fun r22 h23 H locs hp24 w => ?_)
    refine W.widen (k := 0) (n := 0) (by decide) (by decide) ?_
    obtain ⟨e25, rfl⟩ := hp24
    refine pd_jge (tgt := 49) hx hb d_p9m9_12 (by decide) (by omega) (by omega) (fun q26 => ?_) (fun q26 => ?_)
    · -- taken: 49
      refine lv_null hx hb d_p9m9_49 ?_
      refine W.eq (g2 := F0 m 50 ls [va_rf none]) rfl ?_
      exact pd_oret (v := none) X (Or.inl ⟨_, rfl⟩) w ⟨by rw [← hv, gr_dif_e (by have z := e25; rw [List.length_map] at z; omega)]; rfl, rfl⟩ (by decide) (by decide) d_p9m9_50
    · -- not taken: 15
      refine lv_aload_n hx hb d_p9m9_15 rfl (lv_at hl 1 rfl) ?_
      refine lv_aload_n hx hb d_p9m9_16 rfl (lv_at hl 2 rfl) ?_
      refine pd_get X w f3 rfl 6 (by decide) mT_269 rfl rfl d_p9m9_17 ?_
      refine lv_iload hx hb d_p9m9_20 (lv_at hl 0 rfl) ?_
      refine pd_cV (a := fx2) (As := [.int (nI i)]) (rest := [.ref x]) X w f16 rfl (c_AL_get l G h (by assumption) (by omega)) ok_AL_get ⟨mT_179, mT_180⟩ mT_942 ⟨by decide, by decide⟩ rfl hl.1 rfl (Nat.le_of_ble_eq_true rfl) d_p9m9_22 ⟨by decide, by decide⟩ (fun r27 h28 H locs hp29 w => ?_)
      refine W.widen (k := 0) (n := 0) (by decide) (by decide) ?_
      obtain ⟨e30, rfl⟩ := hp29
      have hjl : i < (R j).2.2.2.2.2.2.length := by have z := e25; rw [List.length_map] at z; omega
      have hfn : (R j).2.2.2.2.2.2.getD i 0 < n := Nat.lt_trans ((hcw.2 j hjn).2.2.2.1 _ (tx_get_mem hjl)) hjn
      refine pd_top (v' := .ref (A ((R j).2.2.2.2.2.2.getD i 0))) (by rw [← e30, tx_map_get hjl]) ?_
      obtain ⟨nm31, fx32, f33, f34, f35⟩ := hR.1 ((R j).2.2.2.2.2.2.getD i 0) (by omega)
      obtain ⟨v36, g37, f38, f39, gf40, gc41, gl42⟩ := id f34
      obtain ⟨v43, cap44, g45, f46, z47, z48, z49, z50, z51⟩ := id f35
      refine pd_castO X w f33 rfl mT_943 d_p9m9_25 ?_
      refine lv_aload_n hx hb d_p9m9_28 rfl (lv_at hl 3 rfl) ?_
      refine lv_aload_n hx hb d_p9m9_29 rfl (lv_at hl 4 rfl) ?_
      refine pd_cV (a := x) (As := [.ref (A ((R j).2.2.2.2.2.2.getD i 0)), .ref a, .ref a2]) (rest := []) X w hx0 rfl (c_Members_declared l G h (by assumption) (by assumption) (by omega) (by assumption) (by assumption)) ok_Members_declared ⟨mT_791, mT_792⟩ mT_936 ⟨by decide, by decide⟩ rfl hl.1 rfl (Nat.le_of_ble_eq_true rfl) d_p9m9_30 ⟨by decide, by decide⟩ (fun r52 h53 H locs hp54 w => ?_)
      refine W.widen (k := 0) (n := 0) (by decide) (by decide) ?_
      obtain ⟨e55, rfl⟩ := hp54
      refine pd_ostore (lv' := [(5, va_rf r52), (4, .int (nI i)), (0, .ref x), (1, .ref (A j)), (2, .ref a), (3, .ref a2)]) hx hb d_p9m9_33 hl (by decide) rfl (fun ls hl => ?_)
      refine pd_oload hx hb d_p9m9_35 (lv_at hl 0 rfl) ?_
      rcases pd_om e55 with ⟨q56, q59⟩ | ⟨i58, q56, q59⟩
      · -- none
        refine pd_top (v' := .null) (by rw [q59]; rfl) ?_
        rw [q59] at hl
        have hl : lv_has ls 6 [(5, .null), (4, .int (nI i)), (0, .ref x), (1, .ref (A j)), (2, .ref a), (3, .ref a2)] := hl
        refine lv_ifnullN (tgt := 43) hx hb d_p9m9_37 (by decide) ?_
        refine pd_iinc (k := 1) (d := 1) (lv' := [(4, .int (nI (i + 1))), (5, .null), (0, .ref x), (1, .ref (A j)), (2, .ref a), (3, .ref a2)]) hx hb d_p9m9_43 (by decide) hl rfl (by decide) rfl (fun ls hl => ?_)
        refine lv_goto (tgt := 3) hx hb d_p9m9_46 (by decide) ?_
        exact ih (i + 1) (by omega) (by rw [← hv, gr_dif_n hjl q56]) (by omega) _ _ w ls (lv_sub hl [0, 2, 3, 4, 5] rfl)
      · -- some
        refine pd_top (v' := .ref (B i58)) (by rw [q59]; rfl) ?_
        rw [q59] at hl
        have hl : lv_has ls 6 [(5, .ref (B i58)), (4, .int (nI i)), (0, .ref x), (1, .ref (A j)), (2, .ref a), (3, .ref a2)] := hl
        have i58lt := gr_fi_lt q56
        refine lv_ifnull hx hb d_p9m9_37 ?_
        refine lv_aload hx hb d_p9m9_40 (lv_at hl 0 rfl) ?_
        refine W.eq (g2 := F0 m 42 ls [va_rf (some (B i58))]) rfl ?_
        exact pd_oret (v := (some (B i58))) X (Or.inl ⟨_, rfl⟩) w ⟨by rw [← hv, gr_dif_y hjl q56]; rfl, rfl⟩ (by decide) (by decide) d_p9m9_42
set_option maxHeartbeats 4000000 in
set_option maxRecDepth 100000 in
theorem c_Members_declaredInFaces (l : Launch) (G : pd_G) (h : pd_H) {x : Nat} {A : Nat → Nat} {n : Nat} {R : Nat → pd_cr} {B : Nat → Nat} {k : Nat} {M : Nat → pd_mr} {j a a2 : Nat} {cs ds : List Nat} (hM : pd_Mems G h x A n B k M) (hR : pd_Rows G h A n R) (hjn : j < n) (hS : pd_Str h a cs) (hS2 : pd_Str h a2 ds) : pd_M l y_Members_declaredInFaces prog_9_method_9_code 6 (some (.object "PolicyDesk$MemberRow")) rm_Members_declaredInFaces G h [.ref x, .ref (A j), .ref a, .ref a2] va_rf (fun r h1 => r = (gr_dif M k (R j).2.2.2.2.2.2 cs ds).map B ∧ h = h1) := by
  refine pd_M.of (by decide) (Nat.le_of_ble_eq_true rfl) ?_
  intro p e s m below meth c X hmn w ls hl
  have hx := X.1
  have hb := X.2.1
  have hl : lv_has ls 6 [(0, .ref x), (1, .ref (A j)), (2, .ref a), (3, .ref a2)] := hl
  obtain ⟨ar, f, hx0, har, hfA, hz_x, hz_ar, hk24, hMR⟩ := id hM
  have hcw := hR.2.2
  have hAi := hR.2.1
  have hn14 := hcw.1
  refine lv_iconst (v := nI 0) hx hb d_p9m9_0 (by decide) ?_
  refine lv_istore (lv' := [(4, .int (nI 0)), (0, .ref x), (1, .ref (A j)), (2, .ref a), (3, .ref a2)]) hx hb d_p9m9_1 hl (by decide) rfl (fun ls hl => ?_)
  exact lp_Members_declaredInFaces_3 l G h hM hR hjn hS hS2 X hmn (20 + 1) 0 (by omega) (rfl) (by omega) _ _ w ls (lv_sub hl [0, 1, 2, 3, 4] rfl)
theorem d_p9m7_0 : decode prog_9_method_7_code 0 = .ok (.aload_n 1, 1) := by decide +kernel
theorem d_p9m7_1 : decode prog_9_method_7_code 1 = .ok (.astore 4, 2) := by decide +kernel
theorem d_p9m7_3 : decode prog_9_method_7_code 3 = .ok (.aload 4, 2) := by decide +kernel
theorem d_p9m7_5 : decode prog_9_method_7_code 5 = .ok (.ifnull 51, 3) := by decide +kernel
theorem d_p9m7_8 : decode prog_9_method_7_code 8 = .ok (.aload_n 0, 1) := by decide +kernel
theorem d_p9m7_9 : decode prog_9_method_7_code 9 = .ok (.aload 4, 2) := by decide +kernel
theorem d_p9m7_11 : decode prog_9_method_7_code 11 = .ok (.aload_n 2, 1) := by decide +kernel
theorem d_p9m7_12 : decode prog_9_method_7_code 12 = .ok (.aload_n 3, 1) := by decide +kernel
theorem d_p9m7_13 : decode prog_9_method_7_code 13 = .ok (.invokevirtual 45, 3) := by decide +kernel
theorem d_p9m7_16 : decode prog_9_method_7_code 16 = .ok (.astore 5, 2) := by decide +kernel
theorem d_p9m7_18 : decode prog_9_method_7_code 18 = .ok (.aload 5, 2) := by decide +kernel
theorem d_p9m7_20 : decode prog_9_method_7_code 20 = .ok (.ifnull 8, 3) := by decide +kernel
theorem d_p9m7_23 : decode prog_9_method_7_code 23 = .ok (.aload 5, 2) := by decide +kernel
theorem d_p9m7_25 : decode prog_9_method_7_code 25 = .ok (.goto 11, 3) := by decide +kernel
theorem d_p9m7_28 : decode prog_9_method_7_code 28 = .ok (.aload_n 0, 1) := by decide +kernel
theorem d_p9m7_29 : decode prog_9_method_7_code 29 = .ok (.aload 4, 2) := by decide +kernel
theorem d_p9m7_31 : decode prog_9_method_7_code 31 = .ok (.aload_n 2, 1) := by decide +kernel
theorem d_p9m7_32 : decode prog_9_method_7_code 32 = .ok (.aload_n 3, 1) := by decide +kernel
theorem d_p9m7_33 : decode prog_9_method_7_code 33 = .ok (.invokevirtual 49, 3) := by decide +kernel
theorem d_p9m7_36 : decode prog_9_method_7_code 36 = .ok (.astore 6, 2) := by decide +kernel
theorem d_p9m7_38 : decode prog_9_method_7_code 38 = .ok (.aload 6, 2) := by decide +kernel
theorem d_p9m7_40 : decode prog_9_method_7_code 40 = .ok (.ifnull 6, 3) := by decide +kernel
theorem d_p9m7_43 : decode prog_9_method_7_code 43 = .ok (.aload 6, 2) := by decide +kernel
theorem d_p9m7_45 : decode prog_9_method_7_code 45 = .ok (.areturn, 1) := by decide +kernel
theorem d_p9m7_46 : decode prog_9_method_7_code 46 = .ok (.aload 4, 2) := by decide +kernel
theorem d_p9m7_48 : decode prog_9_method_7_code 48 = .ok (.getfield 52, 3) := by decide +kernel
theorem d_p9m7_51 : decode prog_9_method_7_code 51 = .ok (.astore 4, 2) := by decide +kernel
theorem d_p9m7_53 : decode prog_9_method_7_code 53 = .ok (.goto (-50), 3) := by decide +kernel
theorem d_p9m7_56 : decode prog_9_method_7_code 56 = .ok (.aconst_null, 1) := by decide +kernel
theorem d_p9m7_57 : decode prog_9_method_7_code 57 = .ok (.areturn, 1) := by decide +kernel
abbrev y_Members_findField : MethodName := ⟨"PolicyDesk$Members", "findField", "(LPolicyDesk$ClassRow;Ljava/lang/String;Ljava/lang/String;)LPolicyDesk$MemberRow;"⟩
theorem ok_Members_findField : pd_ok y_Members_findField prog_9_method_7_code 7 (some (.object "PolicyDesk$MemberRow")) 3 := ⟨mT_947, mT_18, by decide, by decide +kernel⟩
abbrev rm_Members_findField : Room := { frames := 4, cells := 0, slots := 0, locals := 94 }
set_option maxHeartbeats 4000000 in
set_option maxRecDepth 100000 in
theorem lp_Members_findField_3 (l : Launch) (G : pd_G) (h : pd_H) {x : Nat} {A : Nat → Nat} {n : Nat} {R : Nat → pd_cr} {B : Nat → Nat} {k : Nat} {M : Nat → pd_mr} {j a a2 : Nat} {cs ds : List Nat} (hM : pd_Mems G h x A n B k M) (hR : pd_Rows G h A n R) (hjn : j < n) (hS : pd_Str h a cs) (hS2 : pd_Str h a2 ds) {p : Program} {e : Env} {s : State} {m : MethodId} {below : List Frame} {meth : Method} {c : Code} (X : pd_B p s m [.ref x, .ref (A j), .ref a, .ref a2].toArray meth c G y_Members_findField.cls prog_9_method_7_code 7 (some (.object "PolicyDesk$MemberRow"))) (hmn : meth.name = y_Members_findField.name) :
    ∀ (kk9 : Nat) (o : Option Nat) (fe : Nat), (∀ t, o = some t → t < n) → (∀ t, o = some t → t < fe) → (gr_ff R M k cs ds fe o = gr_ff R M k cs ds 14 (some j)) → fe < kk9 → ∀ (H : Heap) (locs : List Loc), pd_w G s H locs h → ∀ ls : Array Slot, lv_has ls 7 [(4, va_rf (o.map A)), (0, .ref x), (1, .ref (A j)), (2, .ref a), (3, .ref a2)] → W p l e rm_Members_findField s m [.ref x, .ref (A j), .ref a, .ref a2].toArray below meth c H locs 0 0 (MQ below (pd_Q G va_rf (fun r h1 => r = (gr_ff R M k cs ds 14 (some j)).map B ∧ h = h1)) [.ref x, .ref (A j), .ref a, .ref a2].toArray s rm_Members_findField.cells rm_Members_findField.slots (fun q => G.2.1 ≤ q)) (F0 m 3 ls []) := by
  have hx := X.1
  have hb := X.2.1
  obtain ⟨ar, f, hx0, har, hfA, hz_x, hz_ar, hk24, hMR⟩ := id hM
  have hcw := hR.2.2
  have hAi := hR.2.1
  have hn14 := hcw.1
  intro kk9
  induction kk9 with
  | zero => intros; omega
  | succ kk9 ih =>
    intro o fe ho hfe hv hmu H locs w ls hl
    refine pd_oload hx hb d_p9m7_3 (lv_at hl 0 rfl) ?_
    rcases pd_oc o with q1 | ⟨i3, q1⟩
    · -- none
      refine pd_top (v' := .null) (by rw [q1]; rfl) ?_
      rw [q1] at hl
      have hl : lv_has ls 7 [(4, .null), (0, .ref x), (1, .ref (A j)), (2, .ref a), (3, .ref a2)] := hl
      refine lv_ifnullN (tgt := 56) hx hb d_p9m7_5 (by decide) ?_
      refine lv_null hx hb d_p9m7_56 ?_
      refine W.eq (g2 := F0 m 57 ls [va_rf none]) rfl ?_
      exact pd_oret (v := none) X (Or.inl ⟨_, rfl⟩) w ⟨by rw [← hv, q1, gr_ff_0]; rfl, rfl⟩ (by decide) (by decide) d_p9m7_57
    · -- some
      refine pd_top (v' := .ref (A i3)) (by rw [q1]; rfl) ?_
      rw [q1] at hl
      have hl : lv_has ls 7 [(4, .ref (A i3)), (0, .ref x), (1, .ref (A j)), (2, .ref a), (3, .ref a2)] := hl
      have i3le := hfe i3 q1
      have i3lt := ho i3 q1
      refine lv_ifnull hx hb d_p9m7_5 ?_
      refine lv_aload_n hx hb d_p9m7_8 rfl (lv_at hl 1 rfl) ?_
      refine lv_aload hx hb d_p9m7_9 (lv_at hl 0 rfl) ?_
      refine lv_aload_n hx hb d_p9m7_11 rfl (lv_at hl 3 rfl) ?_
      refine lv_aload_n hx hb d_p9m7_12 rfl (lv_at hl 4 rfl) ?_
      refine pd_cV (a := x) (As := [.ref (A i3), .ref a, .ref a2]) (rest := []) X w hx0 rfl (c_Members_declared l G h (by assumption) (by assumption) (by omega) (by assumption) (by assumption)) ok_Members_declared ⟨mT_791, mT_792⟩ mT_936 ⟨by decide, by decide⟩ rfl hl.1 rfl (Nat.le_of_ble_eq_true rfl) d_p9m7_13 ⟨by decide, by decide⟩ (fun r6 h7 H locs hp8 w => ?_)
      refine W.widen (k := 0) (n := 0) (by decide) (by decide) ?_
      obtain ⟨e9, rfl⟩ := hp8
      refine pd_ostore (lv' := [(5, va_rf r6), (4, .ref (A i3)), (0, .ref x), (1, .ref (A j)), (2, .ref a), (3, .ref a2)]) hx hb d_p9m7_16 hl (by decide) rfl (fun ls hl => ?_)
      refine pd_oload hx hb d_p9m7_18 (lv_at hl 0 rfl) ?_
      rcases pd_om e9 with ⟨q10, q13⟩ | ⟨i12, q10, q13⟩
      · -- none
        refine pd_top (v' := .null) (by rw [q13]; rfl) ?_
        rw [q13] at hl
        have hl : lv_has ls 7 [(5, .null), (4, .ref (A i3)), (0, .ref x), (1, .ref (A j)), (2, .ref a), (3, .ref a2)] := hl
        refine lv_ifnullN (tgt := 28) hx hb d_p9m7_20 (by decide) ?_
        refine lv_aload_n hx hb d_p9m7_28 rfl (lv_at hl 2 rfl) ?_
        refine lv_aload hx hb d_p9m7_29 (lv_at hl 1 rfl) ?_
        refine lv_aload_n hx hb d_p9m7_31 rfl (lv_at hl 4 rfl) ?_
        refine lv_aload_n hx hb d_p9m7_32 rfl (lv_at hl 5 rfl) ?_
        refine pd_cV (a := x) (As := [.ref (A i3), .ref a, .ref a2]) (rest := []) X w hx0 rfl (c_Members_declaredInFaces l G h (by assumption) (by assumption) (by omega) (by assumption) (by assumption)) ok_Members_declaredInFaces ⟨mT_939, sT_9⟩ mT_937 ⟨by decide, by decide⟩ rfl hl.1 rfl (Nat.le_of_ble_eq_true rfl) d_p9m7_33 ⟨by decide, by decide⟩ (fun r15 h16 H locs hp17 w => ?_)
        refine W.widen (k := 0) (n := 0) (by decide) (by decide) ?_
        obtain ⟨e18, rfl⟩ := hp17
        refine pd_ostore (lv' := [(6, va_rf r15), (5, .null), (4, .ref (A i3)), (0, .ref x), (1, .ref (A j)), (2, .ref a), (3, .ref a2)]) hx hb d_p9m7_36 hl (by decide) rfl (fun ls hl => ?_)
        refine pd_oload hx hb d_p9m7_38 (lv_at hl 0 rfl) ?_
        rcases pd_om e18 with ⟨q19, q22⟩ | ⟨i21, q19, q22⟩
        · -- none
          refine pd_top (v' := .null) (by rw [q22]; rfl) ?_
          rw [q22] at hl
          have hl : lv_has ls 7 [(6, .null), (5, .null), (4, .ref (A i3)), (0, .ref x), (1, .ref (A j)), (2, .ref a), (3, .ref a2)] := hl
          refine lv_ifnullN (tgt := 46) hx hb d_p9m7_40 (by decide) ?_
          refine lv_aload hx hb d_p9m7_46 (lv_at hl 2 rfl) ?_
          obtain ⟨nm24, fx25, f26, f27, f28⟩ := hR.1 i3 (by omega)
          obtain ⟨v29, g30, f31, f32, gf33, gc34, gl35⟩ := id f27
          obtain ⟨v36, cap37, g38, f39, z40, z41, z42, z43, z44⟩ := id f28
          refine pd_get X w f26 rfl 3 (by decide) mT_263 rfl rfl d_p9m7_48 ?_
          refine pd_ostore (lv' := [(4, va_rf ((R i3).2.2.1.map A)), (6, .null), (5, .null), (0, .ref x), (1, .ref (A j)), (2, .ref a), (3, .ref a2)]) hx hb d_p9m7_51 hl (by decide) rfl (fun ls hl => ?_)
          refine lv_goto (tgt := 3) hx hb d_p9m7_53 (by decide) ?_
          exact ih ((R i3).2.2.1) (fe - 1) (fun t ht => Nat.lt_trans ((hcw.2 i3 (by omega)).1 t ht) i3lt) (fun t ht => by have z := (hcw.2 i3 (by omega)).1 t ht; omega) (by rw [← hv, q1, gr_ff_c (by omega) q10 q19]) (by omega) _ _ w ls (lv_sub hl [0, 3, 4, 5, 6] rfl)
        · -- some
          refine pd_top (v' := .ref (B i21)) (by rw [q22]; rfl) ?_
          rw [q22] at hl
          have hl : lv_has ls 7 [(6, .ref (B i21)), (5, .null), (4, .ref (A i3)), (0, .ref x), (1, .ref (A j)), (2, .ref a), (3, .ref a2)] := hl
          have i21lt := gr_dif_lt q19
          refine lv_ifnull hx hb d_p9m7_40 ?_
          refine lv_aload hx hb d_p9m7_43 (lv_at hl 0 rfl) ?_
          refine W.eq (g2 := F0 m 45 ls [va_rf (some (B i21))]) rfl ?_
          exact pd_oret (v := (some (B i21))) X (Or.inl ⟨_, rfl⟩) w ⟨by rw [← hv, q1, gr_ff_b (by omega) q10 q19]; rfl, rfl⟩ (by decide) (by decide) d_p9m7_45
      · -- some
        refine pd_top (v' := .ref (B i12)) (by rw [q13]; rfl) ?_
        rw [q13] at hl
        have hl : lv_has ls 7 [(5, .ref (B i12)), (4, .ref (A i3)), (0, .ref x), (1, .ref (A j)), (2, .ref a), (3, .ref a2)] := hl
        have i12lt := gr_fi_lt q10
        refine lv_ifnull hx hb d_p9m7_20 ?_
        refine lv_aload hx hb d_p9m7_23 (lv_at hl 0 rfl) ?_
        refine lv_goto (tgt := 36) hx hb d_p9m7_25 (by decide) ?_
        refine lv_astore (lv' := [(6, .ref (B i12)), (5, .ref (B i12)), (4, .ref (A i3)), (0, .ref x), (1, .ref (A j)), (2, .ref a), (3, .ref a2)]) hx hb d_p9m7_36 hl (by decide) rfl (fun ls hl => ?_)
        refine lv_aload hx hb d_p9m7_38 (lv_at hl 0 rfl) ?_
        refine lv_ifnull hx hb d_p9m7_40 ?_
        refine lv_aload hx hb d_p9m7_43 (lv_at hl 0 rfl) ?_
        refine W.eq (g2 := F0 m 45 ls [va_rf (some (B i12))]) rfl ?_
        exact pd_oret (v := (some (B i12))) X (Or.inl ⟨_, rfl⟩) w ⟨by rw [← hv, q1, gr_ff_a (by omega) q10]; rfl, rfl⟩ (by decide) (by decide) d_p9m7_45
set_option maxHeartbeats 4000000 in
set_option maxRecDepth 100000 in
theorem c_Members_findField (l : Launch) (G : pd_G) (h : pd_H) {x : Nat} {A : Nat → Nat} {n : Nat} {R : Nat → pd_cr} {B : Nat → Nat} {k : Nat} {M : Nat → pd_mr} {j a a2 : Nat} {cs ds : List Nat} (hM : pd_Mems G h x A n B k M) (hR : pd_Rows G h A n R) (hjn : j < n) (hS : pd_Str h a cs) (hS2 : pd_Str h a2 ds) : pd_M l y_Members_findField prog_9_method_7_code 7 (some (.object "PolicyDesk$MemberRow")) rm_Members_findField G h [.ref x, .ref (A j), .ref a, .ref a2] va_rf (fun r h1 => r = (gr_ff R M k cs ds 14 (some j)).map B ∧ h = h1) := by
  refine pd_M.of (by decide) (Nat.le_of_ble_eq_true rfl) ?_
  intro p e s m below meth c X hmn w ls hl
  have hx := X.1
  have hb := X.2.1
  have hl : lv_has ls 7 [(0, .ref x), (1, .ref (A j)), (2, .ref a), (3, .ref a2)] := hl
  obtain ⟨ar, f, hx0, har, hfA, hz_x, hz_ar, hk24, hMR⟩ := id hM
  have hcw := hR.2.2
  have hAi := hR.2.1
  have hn14 := hcw.1
  refine lv_aload_n hx hb d_p9m7_0 rfl (lv_at hl 1 rfl) ?_
  refine lv_astore (lv' := [(4, .ref (A j)), (0, .ref x), (1, .ref (A j)), (2, .ref a), (3, .ref a2)]) hx hb d_p9m7_1 hl (by decide) rfl (fun ls hl => ?_)
  exact lp_Members_findField_3 l G h hM hR hjn hS hS2 X hmn (14 + 1) (some j) 14 (fun t ht => by cases ht; exact hjn) (fun t ht => by cases ht; omega) (rfl) (by omega) _ _ w ls (lv_sub hl [0, 1, 2, 3, 4] rfl)
theorem d_p9m8_0 : decode prog_9_method_8_code 0 = .ok (.aload_n 1, 1) := by decide +kernel
theorem d_p9m8_1 : decode prog_9_method_8_code 1 = .ok (.astore 4, 2) := by decide +kernel
theorem d_p9m8_3 : decode prog_9_method_8_code 3 = .ok (.aload 4, 2) := by decide +kernel
theorem d_p9m8_5 : decode prog_9_method_8_code 5 = .ok (.ifnull 31, 3) := by decide +kernel
theorem d_p9m8_8 : decode prog_9_method_8_code 8 = .ok (.aload_n 0, 1) := by decide +kernel
theorem d_p9m8_9 : decode prog_9_method_8_code 9 = .ok (.aload 4, 2) := by decide +kernel
theorem d_p9m8_11 : decode prog_9_method_8_code 11 = .ok (.aload_n 2, 1) := by decide +kernel
theorem d_p9m8_12 : decode prog_9_method_8_code 12 = .ok (.aload_n 3, 1) := by decide +kernel
theorem d_p9m8_13 : decode prog_9_method_8_code 13 = .ok (.invokevirtual 45, 3) := by decide +kernel
theorem d_p9m8_16 : decode prog_9_method_8_code 16 = .ok (.astore 5, 2) := by decide +kernel
theorem d_p9m8_18 : decode prog_9_method_8_code 18 = .ok (.aload 5, 2) := by decide +kernel
theorem d_p9m8_20 : decode prog_9_method_8_code 20 = .ok (.ifnull 6, 3) := by decide +kernel
theorem d_p9m8_23 : decode prog_9_method_8_code 23 = .ok (.aload 5, 2) := by decide +kernel
theorem d_p9m8_25 : decode prog_9_method_8_code 25 = .ok (.areturn, 1) := by decide +kernel
theorem d_p9m8_26 : decode prog_9_method_8_code 26 = .ok (.aload 4, 2) := by decide +kernel
theorem d_p9m8_28 : decode prog_9_method_8_code 28 = .ok (.getfield 52, 3) := by decide +kernel
theorem d_p9m8_31 : decode prog_9_method_8_code 31 = .ok (.astore 4, 2) := by decide +kernel
theorem d_p9m8_33 : decode prog_9_method_8_code 33 = .ok (.goto (-30), 3) := by decide +kernel
theorem d_p9m8_36 : decode prog_9_method_8_code 36 = .ok (.aload_n 1, 1) := by decide +kernel
theorem d_p9m8_37 : decode prog_9_method_8_code 37 = .ok (.astore 4, 2) := by decide +kernel
theorem d_p9m8_39 : decode prog_9_method_8_code 39 = .ok (.aload 4, 2) := by decide +kernel
theorem d_p9m8_41 : decode prog_9_method_8_code 41 = .ok (.ifnull 31, 3) := by decide +kernel
theorem d_p9m8_44 : decode prog_9_method_8_code 44 = .ok (.aload_n 0, 1) := by decide +kernel
theorem d_p9m8_45 : decode prog_9_method_8_code 45 = .ok (.aload 4, 2) := by decide +kernel
theorem d_p9m8_47 : decode prog_9_method_8_code 47 = .ok (.aload_n 2, 1) := by decide +kernel
theorem d_p9m8_48 : decode prog_9_method_8_code 48 = .ok (.aload_n 3, 1) := by decide +kernel
theorem d_p9m8_49 : decode prog_9_method_8_code 49 = .ok (.invokevirtual 49, 3) := by decide +kernel
theorem d_p9m8_52 : decode prog_9_method_8_code 52 = .ok (.astore 5, 2) := by decide +kernel
theorem d_p9m8_54 : decode prog_9_method_8_code 54 = .ok (.aload 5, 2) := by decide +kernel
theorem d_p9m8_56 : decode prog_9_method_8_code 56 = .ok (.ifnull 6, 3) := by decide +kernel
theorem d_p9m8_59 : decode prog_9_method_8_code 59 = .ok (.aload 5, 2) := by decide +kernel
theorem d_p9m8_61 : decode prog_9_method_8_code 61 = .ok (.areturn, 1) := by decide +kernel
theorem d_p9m8_62 : decode prog_9_method_8_code 62 = .ok (.aload 4, 2) := by decide +kernel
theorem d_p9m8_64 : decode prog_9_method_8_code 64 = .ok (.getfield 52, 3) := by decide +kernel
theorem d_p9m8_67 : decode prog_9_method_8_code 67 = .ok (.astore 4, 2) := by decide +kernel
theorem d_p9m8_69 : decode prog_9_method_8_code 69 = .ok (.goto (-30), 3) := by decide +kernel
theorem d_p9m8_72 : decode prog_9_method_8_code 72 = .ok (.aconst_null, 1) := by decide +kernel
theorem d_p9m8_73 : decode prog_9_method_8_code 73 = .ok (.areturn, 1) := by decide +kernel
abbrev y_Members_findMethod : MethodName := ⟨"PolicyDesk$Members", "findMethod", "(LPolicyDesk$ClassRow;Ljava/lang/String;Ljava/lang/String;)LPolicyDesk$MemberRow;"⟩
theorem ok_Members_findMethod : pd_ok y_Members_findMethod prog_9_method_8_code 6 (some (.object "PolicyDesk$MemberRow")) 3 := ⟨mT_935, mT_18, by decide, by decide +kernel⟩
abbrev rm_Members_findMethod : Room := { frames := 4, cells := 0, slots := 0, locals := 94 }
set_option maxHeartbeats 4000000 in
set_option maxRecDepth 100000 in
theorem lp_Members_findMethod_39 (l : Launch) (G : pd_G) (h : pd_H) {x : Nat} {A : Nat → Nat} {n : Nat} {R : Nat → pd_cr} {B : Nat → Nat} {k : Nat} {M : Nat → pd_mr} {j a a2 : Nat} {cs ds : List Nat} (hM : pd_Mems G h x A n B k M) (hR : pd_Rows G h A n R) (hjn : j < n) (hS : pd_Str h a cs) (hS2 : pd_Str h a2 ds) {p : Program} {e : Env} {s : State} {m : MethodId} {below : List Frame} {meth : Method} {c : Code} (X : pd_B p s m [.ref x, .ref (A j), .ref a, .ref a2].toArray meth c G y_Members_findMethod.cls prog_9_method_8_code 6 (some (.object "PolicyDesk$MemberRow"))) (hmn : meth.name = y_Members_findMethod.name) :
    ∀ (kk9 : Nat) (o : Option Nat) (fe : Nat), (∀ t, o = some t → t < n) → (∀ t, o = some t → t < fe) → (gr_f2 R M k cs ds fe o = gr_f2 R M k cs ds 14 (some j)) → (gr_f1 R M k cs ds 14 (some j) = none) → fe < kk9 → ∀ (H : Heap) (locs : List Loc), pd_w G s H locs h → ∀ ls : Array Slot, lv_has ls 6 [(4, va_rf (o.map A)), (0, .ref x), (1, .ref (A j)), (2, .ref a), (3, .ref a2)] → W p l e rm_Members_findMethod s m [.ref x, .ref (A j), .ref a, .ref a2].toArray below meth c H locs 0 0 (MQ below (pd_Q G va_rf (fun r h1 => r = (gr_meth R M k cs ds j).map B ∧ h = h1)) [.ref x, .ref (A j), .ref a, .ref a2].toArray s rm_Members_findMethod.cells rm_Members_findMethod.slots (fun q => G.2.1 ≤ q)) (F0 m 39 ls []) := by
  have hx := X.1
  have hb := X.2.1
  obtain ⟨ar, f, hx0, har, hfA, hz_x, hz_ar, hk24, hMR⟩ := id hM
  have hcw := hR.2.2
  have hAi := hR.2.1
  have hn14 := hcw.1
  intro kk9
  induction kk9 with
  | zero => intros; omega
  | succ kk9 ih =>
    intro o fe ho hfe hv hn1 hmu H locs w ls hl
    refine pd_oload hx hb d_p9m8_39 (lv_at hl 0 rfl) ?_
    rcases pd_oc o with q1 | ⟨i3, q1⟩
    · -- none
      refine pd_top (v' := .null) (by rw [q1]; rfl) ?_
      rw [q1] at hl
      have hl : lv_has ls 6 [(4, .null), (0, .ref x), (1, .ref (A j)), (2, .ref a), (3, .ref a2)] := hl
      refine lv_ifnullN (tgt := 72) hx hb d_p9m8_41 (by decide) ?_
      refine lv_null hx hb d_p9m8_72 ?_
      refine W.eq (g2 := F0 m 73 ls [va_rf none]) rfl ?_
      exact pd_oret (v := none) X (Or.inl ⟨_, rfl⟩) w ⟨by unfold gr_meth; rw [hn1, ← hv, q1, gr_f2_0]; rfl, rfl⟩ (by decide) (by decide) d_p9m8_73
    · -- some
      refine pd_top (v' := .ref (A i3)) (by rw [q1]; rfl) ?_
      rw [q1] at hl
      have hl : lv_has ls 6 [(4, .ref (A i3)), (0, .ref x), (1, .ref (A j)), (2, .ref a), (3, .ref a2)] := hl
      have i3le := hfe i3 q1
      have i3lt := ho i3 q1
      refine lv_ifnull hx hb d_p9m8_41 ?_
      refine lv_aload_n hx hb d_p9m8_44 rfl (lv_at hl 1 rfl) ?_
      refine lv_aload hx hb d_p9m8_45 (lv_at hl 0 rfl) ?_
      refine lv_aload_n hx hb d_p9m8_47 rfl (lv_at hl 3 rfl) ?_
      refine lv_aload_n hx hb d_p9m8_48 rfl (lv_at hl 4 rfl) ?_
      refine pd_cV (a := x) (As := [.ref (A i3), .ref a, .ref a2]) (rest := []) X w hx0 rfl (c_Members_declaredInFaces l G h (by assumption) (by assumption) (by omega) (by assumption) (by assumption)) ok_Members_declaredInFaces ⟨mT_939, sT_9⟩ mT_937 ⟨by decide, by decide⟩ rfl hl.1 rfl (Nat.le_of_ble_eq_true rfl) d_p9m8_49 ⟨by decide, by decide⟩ (fun r6 h7 H locs hp8 w => ?_)
      refine W.widen (k := 0) (n := 0) (by decide) (by decide) ?_
      obtain ⟨e9, rfl⟩ := hp8
      refine pd_ostore (lv' := [(5, va_rf r6), (4, .ref (A i3)), (0, .ref x), (1, .ref (A j)), (2, .ref a), (3, .ref a2)]) hx hb d_p9m8_52 hl (by decide) rfl (fun ls hl => ?_)
      refine pd_oload hx hb d_p9m8_54 (lv_at hl 0 rfl) ?_
      rcases pd_om e9 with ⟨q10, q13⟩ | ⟨i12, q10, q13⟩
      · -- none
        refine pd_top (v' := .null) (by rw [q13]; rfl) ?_
        rw [q13] at hl
        have hl : lv_has ls 6 [(5, .null), (4, .ref (A i3)), (0, .ref x), (1, .ref (A j)), (2, .ref a), (3, .ref a2)] := hl
        refine lv_ifnullN (tgt := 62) hx hb d_p9m8_56 (by decide) ?_
        refine lv_aload hx hb d_p9m8_62 (lv_at hl 1 rfl) ?_
        obtain ⟨nm15, fx16, f17, f18, f19⟩ := hR.1 i3 (by omega)
        obtain ⟨v20, g21, f22, f23, gf24, gc25, gl26⟩ := id f18
        obtain ⟨v27, cap28, g29, f30, z31, z32, z33, z34, z35⟩ := id f19
        refine pd_get X w f17 rfl 3 (by decide) mT_263 rfl rfl d_p9m8_64 ?_
        refine pd_ostore (lv' := [(4, va_rf ((R i3).2.2.1.map A)), (5, .null), (0, .ref x), (1, .ref (A j)), (2, .ref a), (3, .ref a2)]) hx hb d_p9m8_67 hl (by decide) rfl (fun ls hl => ?_)
        refine lv_goto (tgt := 39) hx hb d_p9m8_69 (by decide) ?_
        exact ih ((R i3).2.2.1) (fe - 1) (fun t ht => Nat.lt_trans ((hcw.2 i3 (by omega)).1 t ht) i3lt) (fun t ht => by have z := (hcw.2 i3 (by omega)).1 t ht; omega) (by rw [← hv, q1, gr_f2_c (by omega) q10]) (hn1) (by omega) _ _ w ls (lv_sub hl [0, 2, 3, 4, 5] rfl)
      · -- some
        refine pd_top (v' := .ref (B i12)) (by rw [q13]; rfl) ?_
        rw [q13] at hl
        have hl : lv_has ls 6 [(5, .ref (B i12)), (4, .ref (A i3)), (0, .ref x), (1, .ref (A j)), (2, .ref a), (3, .ref a2)] := hl
        have i12lt := gr_dif_lt q10
        refine lv_ifnull hx hb d_p9m8_56 ?_
        refine lv_aload hx hb d_p9m8_59 (lv_at hl 0 rfl) ?_
        refine W.eq (g2 := F0 m 61 ls [va_rf (some (B i12))]) rfl ?_
        exact pd_oret (v := (some (B i12))) X (Or.inl ⟨_, rfl⟩) w ⟨by unfold gr_meth; rw [hn1, ← hv, q1, gr_f2_a (by omega) q10]; rfl, rfl⟩ (by decide) (by decide) d_p9m8_61
set_option maxHeartbeats 4000000 in
set_option maxRecDepth 100000 in
theorem lp_Members_findMethod_3 (l : Launch) (G : pd_G) (h : pd_H) {x : Nat} {A : Nat → Nat} {n : Nat} {R : Nat → pd_cr} {B : Nat → Nat} {k : Nat} {M : Nat → pd_mr} {j a a2 : Nat} {cs ds : List Nat} (hM : pd_Mems G h x A n B k M) (hR : pd_Rows G h A n R) (hjn : j < n) (hS : pd_Str h a cs) (hS2 : pd_Str h a2 ds) {p : Program} {e : Env} {s : State} {m : MethodId} {below : List Frame} {meth : Method} {c : Code} (X : pd_B p s m [.ref x, .ref (A j), .ref a, .ref a2].toArray meth c G y_Members_findMethod.cls prog_9_method_8_code 6 (some (.object "PolicyDesk$MemberRow"))) (hmn : meth.name = y_Members_findMethod.name) :
    ∀ (kk9 : Nat) (o : Option Nat) (fe : Nat), (∀ t, o = some t → t < n) → (∀ t, o = some t → t < fe) → (gr_f1 R M k cs ds fe o = gr_f1 R M k cs ds 14 (some j)) → fe < kk9 → ∀ (H : Heap) (locs : List Loc), pd_w G s H locs h → ∀ ls : Array Slot, lv_has ls 6 [(4, va_rf (o.map A)), (0, .ref x), (1, .ref (A j)), (2, .ref a), (3, .ref a2)] → W p l e rm_Members_findMethod s m [.ref x, .ref (A j), .ref a, .ref a2].toArray below meth c H locs 0 0 (MQ below (pd_Q G va_rf (fun r h1 => r = (gr_meth R M k cs ds j).map B ∧ h = h1)) [.ref x, .ref (A j), .ref a, .ref a2].toArray s rm_Members_findMethod.cells rm_Members_findMethod.slots (fun q => G.2.1 ≤ q)) (F0 m 3 ls []) := by
  have hx := X.1
  have hb := X.2.1
  obtain ⟨ar, f, hx0, har, hfA, hz_x, hz_ar, hk24, hMR⟩ := id hM
  have hcw := hR.2.2
  have hAi := hR.2.1
  have hn14 := hcw.1
  intro kk9
  induction kk9 with
  | zero => intros; omega
  | succ kk9 ih =>
    intro o fe ho hfe hv hmu H locs w ls hl
    refine pd_oload hx hb d_p9m8_3 (lv_at hl 0 rfl) ?_
    rcases pd_oc o with q1 | ⟨i3, q1⟩
    · -- none
      refine pd_top (v' := .null) (by rw [q1]; rfl) ?_
      rw [q1] at hl
      have hl : lv_has ls 6 [(4, .null), (0, .ref x), (1, .ref (A j)), (2, .ref a), (3, .ref a2)] := hl
      refine lv_ifnullN (tgt := 36) hx hb d_p9m8_5 (by decide) ?_
      refine lv_aload_n hx hb d_p9m8_36 rfl (lv_at hl 2 rfl) ?_
      refine lv_astore (lv' := [(4, .ref (A j)), (0, .ref x), (1, .ref (A j)), (2, .ref a), (3, .ref a2)]) hx hb d_p9m8_37 hl (by decide) rfl (fun ls hl => ?_)
      exact lp_Members_findMethod_39 l G h hM hR hjn hS hS2 X hmn (14 + 1) (some j) 14 (fun t ht => by cases ht; exact hjn) (fun t ht => by cases ht; omega) (rfl) (by rw [← hv, q1, gr_f1_0]) (by omega) _ _ w ls (lv_sub hl [0, 1, 2, 3, 4] rfl)
    · -- some
      refine pd_top (v' := .ref (A i3)) (by rw [q1]; rfl) ?_
      rw [q1] at hl
      have hl : lv_has ls 6 [(4, .ref (A i3)), (0, .ref x), (1, .ref (A j)), (2, .ref a), (3, .ref a2)] := hl
      have i3le := hfe i3 q1
      have i3lt := ho i3 q1
      refine lv_ifnull hx hb d_p9m8_5 ?_
      refine lv_aload_n hx hb d_p9m8_8 rfl (lv_at hl 1 rfl) ?_
      refine lv_aload hx hb d_p9m8_9 (lv_at hl 0 rfl) ?_
      refine lv_aload_n hx hb d_p9m8_11 rfl (lv_at hl 3 rfl) ?_
      refine lv_aload_n hx hb d_p9m8_12 rfl (lv_at hl 4 rfl) ?_
      refine pd_cV (a := x) (As := [.ref (A i3), .ref a, .ref a2]) (rest := []) X w hx0 rfl (c_Members_declared l G h (by assumption) (by assumption) (by omega) (by assumption) (by assumption)) ok_Members_declared ⟨mT_791, mT_792⟩ mT_936 ⟨by decide, by decide⟩ rfl hl.1 rfl (Nat.le_of_ble_eq_true rfl) d_p9m8_13 ⟨by decide, by decide⟩ (fun r6 h7 H locs hp8 w => ?_)
      refine W.widen (k := 0) (n := 0) (by decide) (by decide) ?_
      obtain ⟨e9, rfl⟩ := hp8
      refine pd_ostore (lv' := [(5, va_rf r6), (4, .ref (A i3)), (0, .ref x), (1, .ref (A j)), (2, .ref a), (3, .ref a2)]) hx hb d_p9m8_16 hl (by decide) rfl (fun ls hl => ?_)
      refine pd_oload hx hb d_p9m8_18 (lv_at hl 0 rfl) ?_
      rcases pd_om e9 with ⟨q10, q13⟩ | ⟨i12, q10, q13⟩
      · -- none
        refine pd_top (v' := .null) (by rw [q13]; rfl) ?_
        rw [q13] at hl
        have hl : lv_has ls 6 [(5, .null), (4, .ref (A i3)), (0, .ref x), (1, .ref (A j)), (2, .ref a), (3, .ref a2)] := hl
        refine lv_ifnullN (tgt := 26) hx hb d_p9m8_20 (by decide) ?_
        refine lv_aload hx hb d_p9m8_26 (lv_at hl 1 rfl) ?_
        obtain ⟨nm15, fx16, f17, f18, f19⟩ := hR.1 i3 (by omega)
        obtain ⟨v20, g21, f22, f23, gf24, gc25, gl26⟩ := id f18
        obtain ⟨v27, cap28, g29, f30, z31, z32, z33, z34, z35⟩ := id f19
        refine pd_get X w f17 rfl 3 (by decide) mT_263 rfl rfl d_p9m8_28 ?_
        refine pd_ostore (lv' := [(4, va_rf ((R i3).2.2.1.map A)), (5, .null), (0, .ref x), (1, .ref (A j)), (2, .ref a), (3, .ref a2)]) hx hb d_p9m8_31 hl (by decide) rfl (fun ls hl => ?_)
        refine lv_goto (tgt := 3) hx hb d_p9m8_33 (by decide) ?_
        exact ih ((R i3).2.2.1) (fe - 1) (fun t ht => Nat.lt_trans ((hcw.2 i3 (by omega)).1 t ht) i3lt) (fun t ht => by have z := (hcw.2 i3 (by omega)).1 t ht; omega) (by rw [← hv, q1, gr_f1_c (by omega) q10]) (by omega) _ _ w ls (lv_sub hl [0, 2, 3, 4, 5] rfl)
      · -- some
        refine pd_top (v' := .ref (B i12)) (by rw [q13]; rfl) ?_
        rw [q13] at hl
        have hl : lv_has ls 6 [(5, .ref (B i12)), (4, .ref (A i3)), (0, .ref x), (1, .ref (A j)), (2, .ref a), (3, .ref a2)] := hl
        have i12lt := gr_fi_lt q10
        refine lv_ifnull hx hb d_p9m8_20 ?_
        refine lv_aload hx hb d_p9m8_23 (lv_at hl 0 rfl) ?_
        refine W.eq (g2 := F0 m 25 ls [va_rf (some (B i12))]) rfl ?_
        exact pd_oret (v := (some (B i12))) X (Or.inl ⟨_, rfl⟩) w ⟨by unfold gr_meth; rw [← hv, q1, gr_f1_a (by omega) q10]; rfl, rfl⟩ (by decide) (by decide) d_p9m8_25
set_option maxHeartbeats 4000000 in
set_option maxRecDepth 100000 in
theorem c_Members_findMethod (l : Launch) (G : pd_G) (h : pd_H) {x : Nat} {A : Nat → Nat} {n : Nat} {R : Nat → pd_cr} {B : Nat → Nat} {k : Nat} {M : Nat → pd_mr} {j a a2 : Nat} {cs ds : List Nat} (hM : pd_Mems G h x A n B k M) (hR : pd_Rows G h A n R) (hjn : j < n) (hS : pd_Str h a cs) (hS2 : pd_Str h a2 ds) : pd_M l y_Members_findMethod prog_9_method_8_code 6 (some (.object "PolicyDesk$MemberRow")) rm_Members_findMethod G h [.ref x, .ref (A j), .ref a, .ref a2] va_rf (fun r h1 => r = (gr_meth R M k cs ds j).map B ∧ h = h1) := by
  refine pd_M.of (by decide) (Nat.le_of_ble_eq_true rfl) ?_
  intro p e s m below meth c X hmn w ls hl
  have hx := X.1
  have hb := X.2.1
  have hl : lv_has ls 6 [(0, .ref x), (1, .ref (A j)), (2, .ref a), (3, .ref a2)] := hl
  obtain ⟨ar, f, hx0, har, hfA, hz_x, hz_ar, hk24, hMR⟩ := id hM
  have hcw := hR.2.2
  have hAi := hR.2.1
  have hn14 := hcw.1
  refine lv_aload_n hx hb d_p9m8_0 rfl (lv_at hl 1 rfl) ?_
  refine lv_astore (lv' := [(4, .ref (A j)), (0, .ref x), (1, .ref (A j)), (2, .ref a), (3, .ref a2)]) hx hb d_p9m8_1 hl (by decide) rfl (fun ls hl => ?_)
  exact lp_Members_findMethod_3 l G h hM hR hjn hS hS2 X hmn (14 + 1) (some j) 14 (fun t ht => by cases ht; exact hjn) (fun t ht => by cases ht; omega) (rfl) (by omega) _ _ w ls (lv_sub hl [0, 1, 2, 3, 4] rfl)
def gr_mkb (m b : Nat) : Bool := !decide (nI m &&& nI b = 0)
theorem d_p8m2_0 : decode prog_8_method_2_code 0 = .ok (.aload_n 0, 1) := by decide +kernel
theorem d_p8m2_1 : decode prog_8_method_2_code 1 = .ok (.getfield 34, 3) := by decide +kernel
theorem d_p8m2_4 : decode prog_8_method_2_code 4 = .ok (.iconst 1, 1) := by decide +kernel
theorem d_p8m2_5 : decode prog_8_method_2_code 5 = .ok (.iand, 1) := by decide +kernel
theorem d_p8m2_6 : decode prog_8_method_2_code 6 = .ok (.ifCond .eq 7, 3) := by decide +kernel
theorem d_p8m2_9 : decode prog_8_method_2_code 9 = .ok (.iconst 1, 1) := by decide +kernel
theorem d_p8m2_10 : decode prog_8_method_2_code 10 = .ok (.goto 4, 3) := by decide +kernel
theorem d_p8m2_13 : decode prog_8_method_2_code 13 = .ok (.iconst 0, 1) := by decide +kernel
theorem d_p8m2_14 : decode prog_8_method_2_code 14 = .ok (.ireturn, 1) := by decide +kernel
abbrev y_MemberRow_isStatic : MethodName := ⟨"PolicyDesk$MemberRow", "isStatic", "()Z"⟩
theorem ok_MemberRow_isStatic : pd_ok y_MemberRow_isStatic prog_8_method_2_code 1 (some .boolean) 0 := ⟨mT_857, mT_29, by decide, by decide +kernel⟩
abbrev rm_MemberRow_isStatic : Room := { frames := 0, cells := 0, slots := 0, locals := 0 }
set_option maxHeartbeats 4000000 in
set_option maxRecDepth 100000 in
theorem c_MemberRow_isStatic (l : Launch) (G : pd_G) (h : pd_H) {A B : Nat → Nat} {n k i : Nat} {M : Nat → pd_mr} (hMR : pd_MRows h A n B k M) (hik : i < k) : pd_M l y_MemberRow_isStatic prog_8_method_2_code 1 (some .boolean) rm_MemberRow_isStatic G h [.ref (B i)] pd_vb (fun r h1 => r = gr_mkb (M i).2.2.2 1 ∧ h = h1) := by
  refine pd_M.of (by decide) (Nat.le_of_ble_eq_true rfl) ?_
  intro p e s m below meth c X hmn w ls hl
  have hx := X.1
  have hb := X.2.1
  have hl : lv_has ls 1 [(0, .ref (B i))] := hl
  refine lv_aload_n hx hb d_p8m2_0 rfl (lv_at hl 0 rfl) ?_
  obtain ⟨⟨nm1, sh2, f3, f4, f5⟩, z6, z7⟩ := hMR i (by omega)
  obtain ⟨v8, g9, f10, f11, gf12, gc13, gl14⟩ := id f4
  obtain ⟨v15, g16, f17, f18, gf19, gc20, gl21⟩ := id f5
  refine pd_get X w f3 rfl 5 (by decide) mT_825 rfl rfl d_p8m2_1 ?_
  refine lv_iconst (v := nI 1) hx hb d_p8m2_4 (by decide) ?_
  refine lv_iand hx hb d_p8m2_5 ?_
  refine lv_if_eq (tgt := 13) hx hb d_p8m2_6 (by decide) (fun q22 => ?_) (fun q22 => ?_)
  · -- taken: 13
    refine lv_iconst (v := nI 0) hx hb d_p8m2_13 (by decide) ?_
    refine W.eq (g2 := F0 m 14 ls [.int (pd_b false)]) rfl ?_
    exact pd_zret (v := false) X w ⟨by unfold gr_mkb; rw [decide_eq_true q22]; rfl, rfl⟩ (by decide) (by decide) d_p8m2_14
  · -- not taken: 9
    refine lv_iconst (v := nI 1) hx hb d_p8m2_9 (by decide) ?_
    refine lv_goto (tgt := 14) hx hb d_p8m2_10 (by decide) ?_
    refine W.eq (g2 := F0 m 14 ls [.int (pd_b true)]) rfl ?_
    exact pd_zret (v := true) X w ⟨by unfold gr_mkb; rw [decide_eq_false q22]; rfl, rfl⟩ (by decide) (by decide) d_p8m2_14
theorem d_p8m3_0 : decode prog_8_method_3_code 0 = .ok (.aload_n 0, 1) := by decide +kernel
theorem d_p8m3_1 : decode prog_8_method_3_code 1 = .ok (.getfield 34, 3) := by decide +kernel
theorem d_p8m3_4 : decode prog_8_method_3_code 4 = .ok (.iconst 2, 1) := by decide +kernel
theorem d_p8m3_5 : decode prog_8_method_3_code 5 = .ok (.iand, 1) := by decide +kernel
theorem d_p8m3_6 : decode prog_8_method_3_code 6 = .ok (.ifCond .eq 7, 3) := by decide +kernel
theorem d_p8m3_9 : decode prog_8_method_3_code 9 = .ok (.iconst 1, 1) := by decide +kernel
theorem d_p8m3_10 : decode prog_8_method_3_code 10 = .ok (.goto 4, 3) := by decide +kernel
theorem d_p8m3_13 : decode prog_8_method_3_code 13 = .ok (.iconst 0, 1) := by decide +kernel
theorem d_p8m3_14 : decode prog_8_method_3_code 14 = .ok (.ireturn, 1) := by decide +kernel
abbrev y_MemberRow_isNative : MethodName := ⟨"PolicyDesk$MemberRow", "isNative", "()Z"⟩
theorem ok_MemberRow_isNative : pd_ok y_MemberRow_isNative prog_8_method_3_code 1 (some .boolean) 0 := ⟨mT_971, mT_29, by decide, by decide +kernel⟩
abbrev rm_MemberRow_isNative : Room := { frames := 0, cells := 0, slots := 0, locals := 0 }
set_option maxHeartbeats 4000000 in
set_option maxRecDepth 100000 in
theorem c_MemberRow_isNative (l : Launch) (G : pd_G) (h : pd_H) {A B : Nat → Nat} {n k i : Nat} {M : Nat → pd_mr} (hMR : pd_MRows h A n B k M) (hik : i < k) : pd_M l y_MemberRow_isNative prog_8_method_3_code 1 (some .boolean) rm_MemberRow_isNative G h [.ref (B i)] pd_vb (fun r h1 => r = gr_mkb (M i).2.2.2 2 ∧ h = h1) := by
  refine pd_M.of (by decide) (Nat.le_of_ble_eq_true rfl) ?_
  intro p e s m below meth c X hmn w ls hl
  have hx := X.1
  have hb := X.2.1
  have hl : lv_has ls 1 [(0, .ref (B i))] := hl
  refine lv_aload_n hx hb d_p8m3_0 rfl (lv_at hl 0 rfl) ?_
  obtain ⟨⟨nm1, sh2, f3, f4, f5⟩, z6, z7⟩ := hMR i (by omega)
  obtain ⟨v8, g9, f10, f11, gf12, gc13, gl14⟩ := id f4
  obtain ⟨v15, g16, f17, f18, gf19, gc20, gl21⟩ := id f5
  refine pd_get X w f3 rfl 5 (by decide) mT_825 rfl rfl d_p8m3_1 ?_
  refine lv_iconst (v := nI 2) hx hb d_p8m3_4 (by decide) ?_
  refine lv_iand hx hb d_p8m3_5 ?_
  refine lv_if_eq (tgt := 13) hx hb d_p8m3_6 (by decide) (fun q22 => ?_) (fun q22 => ?_)
  · -- taken: 13
    refine lv_iconst (v := nI 0) hx hb d_p8m3_13 (by decide) ?_
    refine W.eq (g2 := F0 m 14 ls [.int (pd_b false)]) rfl ?_
    exact pd_zret (v := false) X w ⟨by unfold gr_mkb; rw [decide_eq_true q22]; rfl, rfl⟩ (by decide) (by decide) d_p8m3_14
  · -- not taken: 9
    refine lv_iconst (v := nI 1) hx hb d_p8m3_9 (by decide) ?_
    refine lv_goto (tgt := 14) hx hb d_p8m3_10 (by decide) ?_
    refine W.eq (g2 := F0 m 14 ls [.int (pd_b true)]) rfl ?_
    exact pd_zret (v := true) X w ⟨by unfold gr_mkb; rw [decide_eq_false q22]; rfl, rfl⟩ (by decide) (by decide) d_p8m3_14
