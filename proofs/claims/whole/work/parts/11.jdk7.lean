theorem d_p17m64_0 : decode prog_17_method_64_code 0 = .ok (.aload_n 0, 1) := by decide +kernel
theorem d_p17m64_1 : decode prog_17_method_64_code 1 = .ok (.getfield 15, 3) := by decide +kernel
theorem d_p17m64_4 : decode prog_17_method_64_code 4 = .ok (.areturn, 1) := by decide +kernel
abbrev y_AbstractStringBuilder_getValue : MethodName := ⟨"java/lang/AbstractStringBuilder", "getValue", "()[B"⟩
theorem ok_AbstractStringBuilder_getValue : pd_ok y_AbstractStringBuilder_getValue prog_17_method_64_code 1 (some (.array .byte)) 0 := ⟨mT_498, mT_2, by decide, by decide +kernel⟩
abbrev rm_AbstractStringBuilder_getValue : Room := { frames := 0, cells := 0, slots := 0, locals := 0 }
set_option maxHeartbeats 4000000 in
set_option maxRecDepth 100000 in
theorem c_AbstractStringBuilder_getValue (l : Launch) (G : pd_G) (h : pd_H) {b v t1 t2 cap n : Nat} {ml : Bool} {f : Nat → Int32} (hob : h b = some (t1, .inr (11, [.ref v, .int (nI 0), .int (pd_b ml), .int (nI n)]))) (hov : h v = some (t2, .inl (.byte, cap, .inl f))) (htt : t2 ≠ t1) (hcap : cap ≤ 200) (hnc : n ≤ cap) (hfit : ∀ j, fits .byte (.int (f j)) = true) (hz_b : G.2.1 ≤ b) (hz_v : G.2.1 ≤ v) : pd_M l y_AbstractStringBuilder_getValue prog_17_method_64_code 1 (some (.array .byte)) rm_AbstractStringBuilder_getValue G h [.ref b] Value.ref (fun r h1 => v = r ∧ h = h1) := by
  refine pd_M.of (by decide) (Nat.le_of_ble_eq_true rfl) ?_
  intro p e s m below meth c X hmn w ls hl
  have hx := X.1
  have hb := X.2.1
  have hl : lv_has ls 1 [(0, .ref b)] := hl
  refine lv_aload_n hx hb d_p17m64_0 rfl (lv_at hl 0 rfl) ?_
  refine pd_get X w hob rfl 0 (by decide) mT_58 rfl rfl d_p17m64_1 ?_
  exact pd_aret (v := v) X (Or.inr ⟨_, rfl⟩) w ⟨rfl, rfl⟩ (by decide) (by decide) d_p17m64_4
theorem d_p24m150_0 : decode prog_24_method_150_code 0 = .ok (.aload_n 0, 1) := by decide +kernel
theorem d_p24m150_1 : decode prog_24_method_150_code 1 = .ok (.invokespecial 1, 3) := by decide +kernel
theorem d_p24m150_4 : decode prog_24_method_150_code 4 = .ok (.aload_n 1, 1) := by decide +kernel
theorem d_p24m150_5 : decode prog_24_method_150_code 5 = .ok (.invokevirtual 552, 3) := by decide +kernel
theorem d_p24m150_8 : decode prog_24_method_150_code 8 = .ok (.astore_n 3, 1) := by decide +kernel
theorem d_p24m150_9 : decode prog_24_method_150_code 9 = .ok (.aload_n 1, 1) := by decide +kernel
theorem d_p24m150_10 : decode prog_24_method_150_code 10 = .ok (.invokevirtual 549, 3) := by decide +kernel
theorem d_p24m150_13 : decode prog_24_method_150_code 13 = .ok (.istore 4, 2) := by decide +kernel
theorem d_p24m150_15 : decode prog_24_method_150_code 15 = .ok (.aload_n 1, 1) := by decide +kernel
theorem d_p24m150_16 : decode prog_24_method_150_code 16 = .ok (.invokevirtual 1047, 3) := by decide +kernel
theorem d_p24m150_19 : decode prog_24_method_150_code 19 = .ok (.ifCond .eq 22, 3) := by decide +kernel
theorem d_p24m150_22 : decode prog_24_method_150_code 22 = .ok (.aload_n 0, 1) := by decide +kernel
theorem d_p24m150_23 : decode prog_24_method_150_code 23 = .ok (.iconst 0, 1) := by decide +kernel
theorem d_p24m150_24 : decode prog_24_method_150_code 24 = .ok (.putfield 15, 3) := by decide +kernel
theorem d_p24m150_27 : decode prog_24_method_150_code 27 = .ok (.aload_n 0, 1) := by decide +kernel
theorem d_p24m150_28 : decode prog_24_method_150_code 28 = .ok (.aload_n 3, 1) := by decide +kernel
theorem d_p24m150_29 : decode prog_24_method_150_code 29 = .ok (.iconst 0, 1) := by decide +kernel
theorem d_p24m150_30 : decode prog_24_method_150_code 30 = .ok (.iload 4, 2) := by decide +kernel
theorem d_p24m150_32 : decode prog_24_method_150_code 32 = .ok (.invokestatic 54, 3) := by decide +kernel
theorem d_p24m150_35 : decode prog_24_method_150_code 35 = .ok (.putfield 9, 3) := by decide +kernel
theorem d_p24m150_38 : decode prog_24_method_150_code 38 = .ok (.goto 59, 3) := by decide +kernel
theorem d_p24m150_41 : decode prog_24_method_150_code 41 = .ok (.getstatic 38, 3) := by decide +kernel
theorem d_p24m150_44 : decode prog_24_method_150_code 44 = .ok (.ifCond .eq 35, 3) := by decide +kernel
theorem d_p24m150_47 : decode prog_24_method_150_code 47 = .ok (.aload_n 1, 1) := by decide +kernel
theorem d_p24m150_48 : decode prog_24_method_150_code 48 = .ok (.getfield 1048, 3) := by decide +kernel
theorem d_p24m150_51 : decode prog_24_method_150_code 51 = .ok (.ifCond .eq 28, 3) := by decide +kernel
theorem d_p24m150_54 : decode prog_24_method_150_code 54 = .ok (.aload_n 0, 1) := by decide +kernel
theorem d_p24m150_55 : decode prog_24_method_150_code 55 = .ok (.aload_n 3, 1) := by decide +kernel
theorem d_p24m150_56 : decode prog_24_method_150_code 56 = .ok (.iconst 0, 1) := by decide +kernel
theorem d_p24m150_57 : decode prog_24_method_150_code 57 = .ok (.iload 4, 2) := by decide +kernel
theorem d_p24m150_59 : decode prog_24_method_150_code 59 = .ok (.invokestatic 1051, 3) := by decide +kernel
theorem d_p24m150_62 : decode prog_24_method_150_code 62 = .ok (.putfield 9, 3) := by decide +kernel
theorem d_p24m150_65 : decode prog_24_method_150_code 65 = .ok (.aload_n 0, 1) := by decide +kernel
theorem d_p24m150_66 : decode prog_24_method_150_code 66 = .ok (.aload_n 0, 1) := by decide +kernel
theorem d_p24m150_67 : decode prog_24_method_150_code 67 = .ok (.getfield 9, 3) := by decide +kernel
theorem d_p24m150_70 : decode prog_24_method_150_code 70 = .ok (.iload 4, 2) := by decide +kernel
theorem d_p24m150_72 : decode prog_24_method_150_code 72 = .ok (.invokestatic 47, 3) := by decide +kernel
theorem d_p24m150_75 : decode prog_24_method_150_code 75 = .ok (.putfield 15, 3) := by decide +kernel
theorem d_p24m150_78 : decode prog_24_method_150_code 78 = .ok (.return_, 1) := by decide +kernel
theorem d_p24m150_79 : decode prog_24_method_150_code 79 = .ok (.aload_n 0, 1) := by decide +kernel
theorem d_p24m150_80 : decode prog_24_method_150_code 80 = .ok (.iconst 1, 1) := by decide +kernel
theorem d_p24m150_81 : decode prog_24_method_150_code 81 = .ok (.putfield 15, 3) := by decide +kernel
theorem d_p24m150_84 : decode prog_24_method_150_code 84 = .ok (.aload_n 0, 1) := by decide +kernel
theorem d_p24m150_85 : decode prog_24_method_150_code 85 = .ok (.aload_n 3, 1) := by decide +kernel
theorem d_p24m150_86 : decode prog_24_method_150_code 86 = .ok (.iconst 0, 1) := by decide +kernel
theorem d_p24m150_87 : decode prog_24_method_150_code 87 = .ok (.iload 4, 2) := by decide +kernel
theorem d_p24m150_89 : decode prog_24_method_150_code 89 = .ok (.iconst 1, 1) := by decide +kernel
theorem d_p24m150_90 : decode prog_24_method_150_code 90 = .ok (.ishl, 1) := by decide +kernel
theorem d_p24m150_91 : decode prog_24_method_150_code 91 = .ok (.invokestatic 54, 3) := by decide +kernel
theorem d_p24m150_94 : decode prog_24_method_150_code 94 = .ok (.putfield 9, 3) := by decide +kernel
theorem d_p24m150_97 : decode prog_24_method_150_code 97 = .ok (.return_, 1) := by decide +kernel
abbrev y_String_initA : MethodName := ⟨"java/lang/String", "<init>", "(Ljava/lang/AbstractStringBuilder;Ljava/lang/Void;)V"⟩
theorem ok_String_initA : pd_ok y_String_initA prog_24_method_150_code 5 none 2 := ⟨mT_492, mT_4, by decide, by decide +kernel⟩
abbrev rm_String_initA : Room := { frames := 3, cells := 1, slots := 60, locals := 86 }
set_option maxHeartbeats 4000000 in
set_option maxRecDepth 100000 in
theorem c_String_initA (l : Launch) (G : pd_G) (h : pd_H) {b t1 t2 : Nat} {cs : List Nat} {a tg : Nat} (hSB : pd_SB G h b t1 t2 cs) (htt : t2 ≠ t1) (h01 : t1 ≠ 0) (h02 : t2 ≠ 0) (ha : h a = some (tg, .inr (12, [.null, .int (nI 0)]))) (hz_a : G.2.1 ≤ a) (hln : cs.length ≤ 60) : pd_Mv l y_String_initA prog_24_method_150_code 5 rm_String_initA G h [.ref a, .ref b, .null] (fun h1 => pd_kq a h h1 ∧ ∃ (v2 : Nat) (g : Nat → Int32), h1 a = some (tg, .inr (12, [.ref v2, .int (nI 0)])) ∧ h1 v2 = some (0, .inl (.byte, cs.length, .inl g)) ∧ ∀ j, j < cs.length → g j = sb_b (cs.getD j 0)) := by
  refine pd_Mv.of (by decide) (Nat.le_of_ble_eq_true rfl) ?_
  intro p e s m below meth c X hmn w ls hl
  have hx := X.1
  have hb := X.2.1
  have hl : lv_has ls 5 [(0, .ref a), (1, .ref b), (2, .null)] := hl
  obtain ⟨v, cap, f, ml, hob, hov, hvf, hvc, hnc, hcap, hfit, hz_b, hz_v⟩ := id hSB
  have h01s := Ne.symm h01
  have h02s := Ne.symm h02
  have htts := Ne.symm htt
  refine lv_aload_n hx hb d_p24m150_0 rfl (lv_at hl 0 rfl) ?_
  refine W.objInit hx hb X.2.2.2.2.1 (X.2.2.2.2.2.1 _ mT_493) (X.2.2.2.2.2.1 _ mT_38) (X.2.2.2.2.2.1 _ mT_39) rfl (by rw [X.2.2.2.1]; exact hl.1) rfl d_p24m150_1 (by decide) (Nat.le_of_ble_eq_true rfl) ?_
  refine W.eq (g2 := F0 m 4 ls []) rfl ?_
  refine lv_aload_n hx hb d_p24m150_4 rfl (lv_at hl 1 rfl) ?_
  refine pd_cU (a := b) (As := []) (rest := []) X w hob rfl (c_AbstractStringBuilder_getValue l G h (by assumption) (by assumption) (by assumption) (by assumption) (by assumption) (by assumption) (by assumption) (by assumption)) ok_AbstractStringBuilder_getValue rfl ⟨mT_495, (X.2.2.2.2.2.1 _ mT_497), mT_496⟩ mT_494 ⟨by decide, by decide⟩ rfl hl.1 rfl (Nat.le_of_ble_eq_true rfl) d_p24m150_5 ⟨by decide, by decide⟩ (fun r1 h2 H locs hp3 w => ?_)
  refine W.widen (k := 0) (n := 0) (by decide) (by decide) ?_
  obtain ⟨rfl, rfl⟩ := hp3
  refine lv_astore_n (lv' := [(3, .ref v), (0, .ref a), (1, .ref b), (2, .null)]) hx hb d_p24m150_8 rfl hl (by decide) rfl (fun ls hl => ?_)
  refine lv_aload_n hx hb d_p24m150_9 rfl (lv_at hl 2 rfl) ?_
  refine pd_cO (x := ⟨"java/lang/AbstractStringBuilder", "length", "()I"⟩) (owner := "java/lang/AbstractStringBuilder") (a := b) (As := []) (rest := []) X w hob rfl (c_StringBuilder_length l G h (by assumption) (by assumption) (by assumption) (by assumption) (by assumption) (by assumption) (by assumption) (by assumption)) ok_StringBuilder_length rfl (by decide) ⟨mT_409, (X.2.2.2.2.2.1 _ mT_1485), mT_1480⟩ ⟨mT_413, mT_414⟩ mT_499 ⟨by decide, by decide⟩ rfl hl.1 rfl (Nat.le_of_ble_eq_true rfl) d_p24m150_10 ⟨by decide, by decide⟩ (fun r4 h5 H locs hp6 w => ?_)
  refine W.widen (k := 0) (n := 0) (by decide) (by decide) ?_
  obtain ⟨e7, rfl⟩ := hp6
  subst e7
  refine lv_istore (lv' := [(4, .int (nI cs.length)), (3, .ref v), (0, .ref a), (1, .ref b), (2, .null)]) hx hb d_p24m150_13 hl (by decide) rfl (fun ls hl => ?_)
  refine lv_aload_n hx hb d_p24m150_15 rfl (lv_at hl 3 rfl) ?_
  refine pd_cU (a := b) (As := []) (rest := []) X w hob rfl (c_AbstractStringBuilder_isLatin1 l G h (by assumption) (by assumption) (by assumption) (by assumption) (by assumption) (by assumption) (by assumption) (by assumption)) ok_AbstractStringBuilder_isLatin1 rfl ⟨mT_443, (X.2.2.2.2.2.1 _ mT_445), mT_444⟩ mT_500 ⟨by decide, by decide⟩ rfl hl.1 rfl (Nat.le_of_ble_eq_true rfl) d_p24m150_16 ⟨by decide, by decide⟩ (fun r8 h9 H locs hp10 w => ?_)
  refine W.widen (k := 0) (n := 0) (by decide) (by decide) ?_
  obtain ⟨e11, rfl⟩ := hp10
  subst e11
  refine W.eq (g2 := F0 m 19 ls [.int (nI 1)]) rfl ?_
  refine pd_zeq (tgt := 41) hx hb d_p24m150_19 (by decide) (by decide) (fun q => absurd q (by decide)) (fun _ => ?_)
  refine lv_aload_n hx hb d_p24m150_22 rfl (lv_at hl 2 rfl) ?_
  refine lv_iconst (v := nI 0) hx hb d_p24m150_23 (by decide) ?_
  refine pd_putF (ty := .byte) X w ha hz_a rfl 1 (by decide) mT_521 rfl rfl hmn rfl (by decide +kernel) (by decide) (by decide) (Nat.le_of_ble_eq_true rfl) d_p24m150_24 (fun H locs w => ?_)
  have w : pd_w G s H locs (pd_up h a (tg, .inr (12, [.null, .int (nI 0)]))) := w
  obtain ⟨h13, u16⟩ : ∃ z, z = pd_up h a (tg, .inr (12, [.null, .int (nI 0)])) := ⟨_, rfl⟩
  rw [← u16] at w
  have k14 : pd_kq a h h13 := by rw [u16]; exact pd_up_kq
  have f15 : h13 a = some (tg, .inr (12, [.null, .int (nI 0)])) := by rw [u16]; exact pd_up_s _ _ _
  have f17 := k14 _ _ (pd_ne hob ha (by simp [htt, htts, h01, h01s, h02, h02s])) hob
  have f18 := k14 _ _ (pd_ne hov ha (by simp [htt, htts, h01, h01s, h02, h02s])) hov
  refine lv_aload_n hx hb d_p24m150_27 rfl (lv_at hl 2 rfl) ?_
  refine lv_aload_n hx hb d_p24m150_28 rfl (lv_at hl 1 rfl) ?_
  refine lv_iconst (v := nI 0) hx hb d_p24m150_29 (by decide) ?_
  refine lv_iload hx hb d_p24m150_30 (lv_at hl 0 rfl) ?_
  refine pd_cS (As := [.ref v, .int (nI 0), .int (nI cs.length)]) (rest := [.ref a]) X w (c_Arrays_copyOfRange l G h13 0 (by assumption) (by omega) (by omega) (by omega) (by omega) (fun j _ => hfit j) (fun _ _ => hz_v)) ok_Arrays_copyOfRange mT_502 mT_501 ⟨by decide, by decide⟩ rfl hl.1 rfl (Nat.le_of_ble_eq_true rfl) d_p24m150_32 ⟨by decide, by decide⟩ (fun r19 h20 H locs hp21 w => ?_)
  refine W.widen (k := 1) (n := 60) (by decide) (by decide) ?_
  obtain ⟨k22, hz23, g24, f25, gf26⟩ := hp21
  have f27 := k22 _ _ f17 List.not_mem_nil
  have f28 := k22 _ _ f15 List.not_mem_nil
  have f29 := k22 _ _ f18 List.not_mem_nil
  refine pd_putF (ty := (.array .byte)) X w f28 hz_a rfl 0 (by decide) mT_520 rfl rfl hmn rfl (by decide +kernel) rfl rfl (Nat.le_of_ble_eq_true rfl) d_p24m150_35 (fun H locs w => ?_)
  have w : pd_w G s H locs (pd_up h20 a (tg, .inr (12, [.ref r19, .int (nI 0)]))) := w
  obtain ⟨h30, u33⟩ : ∃ z, z = pd_up h20 a (tg, .inr (12, [.ref r19, .int (nI 0)])) := ⟨_, rfl⟩
  rw [← u33] at w
  have k31 : pd_kq a h20 h30 := by rw [u33]; exact pd_up_kq
  have f32 : h30 a = some (tg, .inr (12, [.ref r19, .int (nI 0)])) := by rw [u33]; exact pd_up_s _ _ _
  have f34 := k31 _ _ (pd_ne f27 f28 (by simp [htt, htts, h01, h01s, h02, h02s])) f27
  have f35 := k31 _ _ (pd_ne f29 f28 (by simp [htt, htts, h01, h01s, h02, h02s])) f29
  have f36 := k31 _ _ (pd_ne f25 f28 (by simp [htt, htts, h01, h01s, h02, h02s])) f25
  refine lv_goto (tgt := 97) hx hb d_p24m150_38 (by decide) ?_
  exact pd_vret X w ⟨((k14).tr (k22).kq).tr k31, _, _, f32, f36, fun j hj => by rw [gf26 j (by omega), Nat.zero_add, hvf j hj]⟩ (by decide) (by decide) d_p24m150_97
theorem d_p24m53_0 : decode prog_24_method_53_code 0 = .ok (.aload_n 0, 1) := by decide +kernel
theorem d_p24m53_1 : decode prog_24_method_53_code 1 = .ok (.aload_n 1, 1) := by decide +kernel
theorem d_p24m53_2 : decode prog_24_method_53_code 2 = .ok (.aconst_null, 1) := by decide +kernel
theorem d_p24m53_3 : decode prog_24_method_53_code 3 = .ok (.invokespecial 489, 3) := by decide +kernel
theorem d_p24m53_6 : decode prog_24_method_53_code 6 = .ok (.return_, 1) := by decide +kernel
abbrev y_String_initSB : MethodName := ⟨"java/lang/String", "<init>", "(Ljava/lang/StringBuilder;)V"⟩
theorem ok_String_initSB : pd_ok y_String_initSB prog_24_method_53_code 2 none 1 := ⟨mT_489, mT_4, by decide, by decide +kernel⟩
abbrev rm_String_initSB : Room := { frames := 4, cells := 1, slots := 60, locals := 110 }
set_option maxHeartbeats 4000000 in
set_option maxRecDepth 100000 in
theorem c_String_initSB (l : Launch) (G : pd_G) (h : pd_H) {b t1 t2 : Nat} {cs : List Nat} {a tg : Nat} (hSB : pd_SB G h b t1 t2 cs) (htt : t2 ≠ t1) (h01 : t1 ≠ 0) (h02 : t2 ≠ 0) (ha : h a = some (tg, .inr (12, [.null, .int (nI 0)]))) (hz_a : G.2.1 ≤ a) (hln : cs.length ≤ 60) : pd_Mv l y_String_initSB prog_24_method_53_code 2 rm_String_initSB G h [.ref a, .ref b] (fun h1 => pd_kq a h h1 ∧ ∃ (v2 : Nat) (g : Nat → Int32), h1 a = some (tg, .inr (12, [.ref v2, .int (nI 0)])) ∧ h1 v2 = some (0, .inl (.byte, cs.length, .inl g)) ∧ ∀ j, j < cs.length → g j = sb_b (cs.getD j 0)) := by
  refine pd_Mv.of (by decide) (Nat.le_of_ble_eq_true rfl) ?_
  intro p e s m below meth c X hmn w ls hl
  have hx := X.1
  have hb := X.2.1
  have hl : lv_has ls 2 [(0, .ref a), (1, .ref b)] := hl
  obtain ⟨v, cap, f, ml, hob, hov, hvf, hvc, hnc, hcap, hfit, hz_b, hz_v⟩ := id hSB
  have h01s := Ne.symm h01
  have h02s := Ne.symm h02
  have htts := Ne.symm htt
  refine lv_aload_n hx hb d_p24m53_0 rfl (lv_at hl 0 rfl) ?_
  refine lv_aload_n hx hb d_p24m53_1 rfl (lv_at hl 1 rfl) ?_
  refine lv_null hx hb d_p24m53_2 ?_
  refine pd_cI (a := a) (As := [.ref b, .null]) (rest := []) X w (c_String_initA l G h (by assumption) (by assumption) (by assumption) (by assumption) (by assumption) (by assumption) (by omega)) ok_String_initA rfl mT_491 mT_490 ⟨by decide, by decide⟩ rfl hl.1 rfl (Nat.le_of_ble_eq_true rfl) d_p24m53_3 ⟨by decide, by decide⟩ (fun h2 H locs hp3 w => ?_)
  refine W.widen (k := 1) (n := 60) (by decide) (by decide) ?_
  obtain ⟨k8, v4, g5, f9, f6, gf7⟩ := hp3
  have f10 := k8 _ _ (pd_ne hob ha (by simp [htt, htts, h01, h01s, h02, h02s])) hob
  have f11 := k8 _ _ (pd_ne hov ha (by simp [htt, htts, h01, h01s, h02, h02s])) hov
  have f12 := hSB.kq k8 ha (by simp [pd_nsb, htt, htts, h01, h01s, h02, h02s])
  exact pd_vret X w ⟨k8, _, _, f9, f6, gf7⟩ (by decide) (by decide) d_p24m53_6
theorem d_p25m42_0 : decode prog_25_method_42_code 0 = .ok (.new 18, 3) := by decide +kernel
theorem d_p25m42_3 : decode prog_25_method_42_code 3 = .ok (.dup, 1) := by decide +kernel
theorem d_p25m42_4 : decode prog_25_method_42_code 4 = .ok (.aload_n 0, 1) := by decide +kernel
theorem d_p25m42_5 : decode prog_25_method_42_code 5 = .ok (.invokespecial 137, 3) := by decide +kernel
theorem d_p25m42_8 : decode prog_25_method_42_code 8 = .ok (.areturn, 1) := by decide +kernel
abbrev y_SB_toString : MethodName := ⟨"java/lang/StringBuilder", "toString", "()Ljava/lang/String;"⟩
theorem ok_SB_toString : pd_ok y_SB_toString prog_25_method_42_code 1 (some (.object "java/lang/String")) 0 := ⟨mT_484, mT_3, by decide, by decide +kernel⟩
abbrev rm_SB_toString : Room := { frames := 5, cells := 2, slots := 64, locals := 131 }
set_option maxHeartbeats 4000000 in
set_option maxRecDepth 100000 in
theorem c_SB_toString (l : Launch) (G : pd_G) (h : pd_H) {b t1 t2 : Nat} {cs : List Nat} (hSB : pd_SB G h b t1 t2 cs) (htt : t2 ≠ t1) (h01 : t1 ≠ 0) (h02 : t2 ≠ 0) (hln : cs.length ≤ 60) : pd_M l y_SB_toString prog_25_method_42_code 1 (some (.object "java/lang/String")) rm_SB_toString G h [.ref b] Value.ref (fun r h1 => pd_kx [] h h1 ∧ ∃ ds, ds = cs ∧ pd_Str h1 r ds) := by
  refine pd_M.of (by decide) (Nat.le_of_ble_eq_true rfl) ?_
  intro p e s m below meth c X hmn w ls hl
  have hx := X.1
  have hb := X.2.1
  have hl : lv_has ls 1 [(0, .ref b)] := hl
  obtain ⟨v, cap, f, ml, hob, hov, hvf, hvc, hnc, hcap, hfit, hz_b, hz_v⟩ := id hSB
  have h01s := Ne.symm h01
  have h02s := Ne.symm h02
  have htts := Ne.symm htt
  refine pd_new (ci := 12) (C := "java/lang/String") (T := pd_F12) (N := 2) (fs := [.null, .int (nI 0)]) 0 X w rfl mT_485 mT_486 mT_4 (pd_hfs (by decide +kernel)) (by decide) (by decide) d_p25m42_0 (fun q1 H hq2 hz3 w => ?_)
  refine W.widen (k := 1) (n := 4) (by decide) (by decide) ?_
  obtain ⟨h4, u7⟩ : ∃ z, z = pd_up h q1 (0, .inr (12, [.null, .int (nI 0)])) := ⟨_, rfl⟩
  rw [← u7] at w
  have k5 : pd_kx [] h h4 := by rw [u7]; exact pd_new_kx hq2
  have f6 : h4 q1 = some (0, .inr (12, [.null, .int (nI 0)])) := by rw [u7]; exact pd_up_s _ _ _
  have f8 := k5 _ _ hob List.not_mem_nil
  have f9 := k5 _ _ hov List.not_mem_nil
  have f10 := hSB.kx k5 List.not_mem_nil List.not_mem_nil
  refine lv_dup hx hb d_p25m42_3 rfl ?_
  refine lv_aload_n hx hb d_p25m42_4 rfl (lv_at hl 0 rfl) ?_
  refine pd_cI (a := q1) (As := [.ref b]) (rest := [.ref q1]) X w (c_String_initSB l G h4 (by assumption) (by assumption) (by assumption) (by assumption) (by assumption) (by assumption) (by omega)) ok_String_initSB rfl mT_488 mT_487 ⟨by decide, by decide⟩ rfl hl.1 rfl (Nat.le_of_ble_eq_true rfl) d_p25m42_5 ⟨by decide, by decide⟩ (fun h12 H locs hp13 w => ?_)
  refine W.widen (k := 2) (n := 64) (by decide) (by decide) ?_
  obtain ⟨k18, v14, g15, f19, f16, gf17⟩ := hp13
  have f20 := k18 _ _ (pd_nn hob hq2) f8
  have f21 := k18 _ _ (pd_nn hov hq2) f9
  have f22 := f10.kq k18 f6 (by simp [pd_nsb, htt, htts, h01, h01s, h02, h02s])
  have kt23 : pd_kx [] h h12 := by
    intro ya c9 ys0 n9
    have ys1 := k5 ya c9 ys0 List.not_mem_nil
    have ys2 := k18 ya c9 (pd_nn ys0 hq2) ys1
    exact ys2
  exact pd_aret (v := q1) X (Or.inl ⟨_, rfl⟩) w ⟨kt23, _, rfl, _, _, f19, f16, gf17, hvc, hln⟩ (by decide) (by decide) d_p25m42_8
