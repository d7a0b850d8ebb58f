theorem d_p17m68_0 : decode prog_17_method_68_code 0 = .ok (.getstatic 18, 3) := by decide +kernel
theorem d_p17m68_3 : decode prog_17_method_68_code 3 = .ok (.ifCond .eq 14, 3) := by decide +kernel
theorem d_p17m68_6 : decode prog_17_method_68_code 6 = .ok (.aload_n 0, 1) := by decide +kernel
theorem d_p17m68_7 : decode prog_17_method_68_code 7 = .ok (.getfield 22, 3) := by decide +kernel
theorem d_p17m68_10 : decode prog_17_method_68_code 10 = .ok (.ifCond .ne 7, 3) := by decide +kernel
theorem d_p17m68_13 : decode prog_17_method_68_code 13 = .ok (.iconst 1, 1) := by decide +kernel
theorem d_p17m68_14 : decode prog_17_method_68_code 14 = .ok (.goto 4, 3) := by decide +kernel
theorem d_p17m68_17 : decode prog_17_method_68_code 17 = .ok (.iconst 0, 1) := by decide +kernel
theorem d_p17m68_18 : decode prog_17_method_68_code 18 = .ok (.ireturn, 1) := by decide +kernel
abbrev y_AbstractStringBuilder_isLatin1 : MethodName := ⟨"java/lang/AbstractStringBuilder", "isLatin1", "()Z"⟩
theorem ok_AbstractStringBuilder_isLatin1 : pd_ok y_AbstractStringBuilder_isLatin1 prog_17_method_68_code 1 (some .boolean) 0 := ⟨mT_446, mT_2, by decide, by decide +kernel⟩
abbrev rm_AbstractStringBuilder_isLatin1 : Room := { frames := 0, cells := 0, slots := 0, locals := 0 }
set_option maxHeartbeats 4000000 in
set_option maxRecDepth 100000 in
theorem c_AbstractStringBuilder_isLatin1 (l : Launch) (G : pd_G) (h : pd_H) {b v t1 t2 cap n : Nat} {ml : Bool} {f : Nat → Int32} (hob : h b = some (t1, .inr (11, [.ref v, .int (nI 0), .int (pd_b ml), .int (nI n)]))) (hov : h v = some (t2, .inl (.byte, cap, .inl f))) (htt : t2 ≠ t1) (hcap : cap ≤ 200) (hnc : n ≤ cap) (hfit : ∀ j, fits .byte (.int (f j)) = true) (hz_b : G.2.1 ≤ b) (hz_v : G.2.1 ≤ v) : pd_M l y_AbstractStringBuilder_isLatin1 prog_17_method_68_code 1 (some .boolean) rm_AbstractStringBuilder_isLatin1 G h [.ref b] pd_vb (fun r h1 => r = true ∧ h = h1) := by
  refine pd_M.of (by decide) (Nat.le_of_ble_eq_true rfl) ?_
  intro p e s m below meth c X hmn w ls hl
  have hx := X.1
  have hb := X.2.1
  have hl : lv_has ls 1 [(0, .ref b)] := hl
  refine pd_gets X w (List.mem_of_getElem? (i := 0) rfl) mT_49 d_p17m68_0 ?_
  refine pd_zeq (tgt := 17) hx hb d_p17m68_3 (by decide) (by decide) (fun q => absurd q (by decide)) (fun _ => ?_)
  refine lv_aload_n hx hb d_p17m68_6 rfl (lv_at hl 0 rfl) ?_
  refine pd_get X w hob rfl 1 (by decide) mT_59 rfl rfl d_p17m68_7 ?_
  refine pd_zne (tgt := 17) hx hb d_p17m68_10 (by decide) (by decide) (fun q => absurd q (by decide)) (fun _ => ?_)
  refine lv_iconst (v := nI 1) hx hb d_p17m68_13 (by decide) ?_
  refine lv_goto (tgt := 18) hx hb d_p17m68_14 (by decide) ?_
  refine W.eq (g2 := F0 m 18 ls [.int (pd_b true)]) rfl ?_
  exact pd_zret (v := true) X w ⟨rfl, rfl⟩ (by decide) (by decide) d_p17m68_18
theorem d_p17m6_0 : decode prog_17_method_6_code 0 = .ok (.aload_n 0, 1) := by decide +kernel
theorem d_p17m6_1 : decode prog_17_method_6_code 1 = .ok (.getfield 79, 3) := by decide +kernel
theorem d_p17m6_4 : decode prog_17_method_6_code 4 = .ok (.ireturn, 1) := by decide +kernel
abbrev y_AbstractStringBuilder_length : MethodName := ⟨"java/lang/AbstractStringBuilder", "length", "()I"⟩
theorem ok_AbstractStringBuilder_length : pd_ok y_AbstractStringBuilder_length prog_17_method_6_code 1 (some .int) 0 := ⟨mT_414, mT_2, by decide, by decide +kernel⟩
abbrev rm_AbstractStringBuilder_length : Room := { frames := 0, cells := 0, slots := 0, locals := 0 }
set_option maxHeartbeats 4000000 in
set_option maxRecDepth 100000 in
theorem c_AbstractStringBuilder_length (l : Launch) (G : pd_G) (h : pd_H) {b v t1 t2 cap n : Nat} {ml : Bool} {f : Nat → Int32} (hob : h b = some (t1, .inr (11, [.ref v, .int (nI 0), .int (pd_b ml), .int (nI n)]))) (hov : h v = some (t2, .inl (.byte, cap, .inl f))) (htt : t2 ≠ t1) (hcap : cap ≤ 200) (hnc : n ≤ cap) (hfit : ∀ j, fits .byte (.int (f j)) = true) (hz_b : G.2.1 ≤ b) (hz_v : G.2.1 ≤ v) : pd_M l y_AbstractStringBuilder_length prog_17_method_6_code 1 (some .int) rm_AbstractStringBuilder_length G h [.ref b] pd_vn (fun r h1 => r = n ∧ h = h1) := by
  refine pd_M.of (by decide) (Nat.le_of_ble_eq_true rfl) ?_
  intro p e s m below meth c X hmn w ls hl
  have hx := X.1
  have hb := X.2.1
  have hl : lv_has ls 1 [(0, .ref b)] := hl
  refine lv_aload_n hx hb d_p17m6_0 rfl (lv_at hl 0 rfl) ?_
  refine pd_get X w hob rfl 3 (by decide) mT_62 rfl rfl d_p17m6_1 ?_
  exact pd_nret (v := n) X w ⟨rfl, rfl⟩ (by decide) (by decide) d_p17m6_4
theorem d_p25m93_0 : decode prog_25_method_93_code 0 = .ok (.aload_n 0, 1) := by decide +kernel
theorem d_p25m93_1 : decode prog_25_method_93_code 1 = .ok (.invokespecial 343, 3) := by decide +kernel
theorem d_p25m93_4 : decode prog_25_method_93_code 4 = .ok (.ireturn, 1) := by decide +kernel
abbrev y_StringBuilder_length : MethodName := ⟨"java/lang/StringBuilder", "length", "()I"⟩
theorem ok_StringBuilder_length : pd_ok y_StringBuilder_length prog_25_method_93_code 1 (some .int) 0 := ⟨mT_411, mT_3, by decide, by decide +kernel⟩
abbrev rm_StringBuilder_length : Room := { frames := 1, cells := 0, slots := 0, locals := 20 }
set_option maxHeartbeats 4000000 in
set_option maxRecDepth 100000 in
theorem c_StringBuilder_length (l : Launch) (G : pd_G) (h : pd_H) {b v t1 t2 cap n : Nat} {ml : Bool} {f : Nat → Int32} (hob : h b = some (t1, .inr (11, [.ref v, .int (nI 0), .int (pd_b ml), .int (nI n)]))) (hov : h v = some (t2, .inl (.byte, cap, .inl f))) (htt : t2 ≠ t1) (hcap : cap ≤ 200) (hnc : n ≤ cap) (hfit : ∀ j, fits .byte (.int (f j)) = true) (hz_b : G.2.1 ≤ b) (hz_v : G.2.1 ≤ v) : pd_M l y_StringBuilder_length prog_25_method_93_code 1 (some .int) rm_StringBuilder_length G h [.ref b] pd_vn (fun r h1 => r = n ∧ h = h1) := by
  refine pd_M.of (by decide) (Nat.le_of_ble_eq_true rfl) ?_
  intro p e s m below meth c X hmn w ls hl
  have hx := X.1
  have hb := X.2.1
  have hl : lv_has ls 1 [(0, .ref b)] := hl
  refine lv_aload_n hx hb d_p25m93_0 rfl (lv_at hl 0 rfl) ?_
  refine pd_cW (a := b) (As := []) (rest := []) X w hob rfl (c_AbstractStringBuilder_length l G h (by assumption) (by assumption) (by assumption) (by assumption) (by assumption) (by assumption) (by assumption) (by assumption)) ok_AbstractStringBuilder_length (by decide) ⟨mT_413, mT_71, mT_1480⟩ mT_412 ⟨by decide, by decide⟩ rfl hl.1 rfl (Nat.le_of_ble_eq_true rfl) d_p25m93_1 ⟨by decide, by decide⟩ (fun r1 h2 H locs hp3 w => ?_)
  refine W.widen (k := 0) (n := 0) (by decide) (by decide) ?_
  obtain ⟨e4, rfl⟩ := hp3
  exact pd_nret (v := r1) X w ⟨by assumption, rfl⟩ (by decide) (by decide) d_p25m93_4
theorem d_p38m27_0 : decode prog_38_method_27_code 0 = .ok (.iload_n 0, 1) := by decide +kernel
theorem d_p38m27_1 : decode prog_38_method_27_code 1 = .ok (.iload_n 1, 1) := by decide +kernel
theorem d_p38m27_2 : decode prog_38_method_27_code 2 = .ok (.iload_n 2, 1) := by decide +kernel
theorem d_p38m27_3 : decode prog_38_method_27_code 3 = .ok (.invokestatic 194, 3) := by decide +kernel
theorem d_p38m27_6 : decode prog_38_method_27_code 6 = .ok (.iadd, 1) := by decide +kernel
theorem d_p38m27_7 : decode prog_38_method_27_code 7 = .ok (.istore_n 3, 1) := by decide +kernel
theorem d_p38m27_8 : decode prog_38_method_27_code 8 = .ok (.iconst 0, 1) := by decide +kernel
theorem d_p38m27_9 : decode prog_38_method_27_code 9 = .ok (.iload_n 3, 1) := by decide +kernel
theorem d_p38m27_10 : decode prog_38_method_27_code 10 = .ok (.if_icmp .ge 11, 3) := by decide +kernel
theorem d_p38m27_13 : decode prog_38_method_27_code 13 = .ok (.iload_n 3, 1) := by decide +kernel
theorem d_p38m27_14 : decode prog_38_method_27_code 14 = .ok (.ldc 200, 2) := by decide +kernel
theorem d_p38m27_16 : decode prog_38_method_27_code 16 = .ok (.if_icmp .gt 5, 3) := by decide +kernel
theorem d_p38m27_19 : decode prog_38_method_27_code 19 = .ok (.iload_n 3, 1) := by decide +kernel
theorem d_p38m27_20 : decode prog_38_method_27_code 20 = .ok (.ireturn, 1) := by decide +kernel
theorem d_p38m27_21 : decode prog_38_method_27_code 21 = .ok (.iload_n 0, 1) := by decide +kernel
theorem d_p38m27_22 : decode prog_38_method_27_code 22 = .ok (.iload_n 1, 1) := by decide +kernel
theorem d_p38m27_23 : decode prog_38_method_27_code 23 = .ok (.invokestatic 201, 3) := by decide +kernel
theorem d_p38m27_26 : decode prog_38_method_27_code 26 = .ok (.ireturn, 1) := by decide +kernel
abbrev y_ArraysSupport_newLength : MethodName := ⟨"jdk/internal/util/ArraysSupport", "newLength", "(III)I"⟩
theorem ok_ArraysSupport_newLength : pd_ok y_ArraysSupport_newLength prog_38_method_27_code 4 (some .int) 3 := ⟨mT_208, mT_14, by decide, by decide +kernel⟩
abbrev rm_ArraysSupport_newLength : Room := { frames := 1, cells := 0, slots := 0, locals := 21 }
set_option maxHeartbeats 4000000 in
set_option maxRecDepth 100000 in
theorem c_ArraysSupport_newLength (l : Launch) (G : pd_G) (h : pd_H) {x y z : Nat} (hx1 : x ≤ 1000) (hy1 : y ≤ 1000) (hz1 : z ≤ 1000) (hp1 : 0 < z) : pd_M l y_ArraysSupport_newLength prog_38_method_27_code 4 (some .int) rm_ArraysSupport_newLength G h [.int (nI x), .int (nI y), .int (nI z)] pd_vn (fun r h1 => r = x + max y z ∧ h = h1) := by
  refine pd_M.of (by decide) (Nat.le_of_ble_eq_true rfl) ?_
  intro p e s m below meth c X hmn w ls hl
  have hx := X.1
  have hb := X.2.1
  have hl : lv_has ls 4 [(0, .int (nI x)), (1, .int (nI y)), (2, .int (nI z))] := hl
  refine lv_iload_n hx hb d_p38m27_0 rfl (lv_at hl 0 rfl) ?_
  refine lv_iload_n hx hb d_p38m27_1 rfl (lv_at hl 1 rfl) ?_
  refine lv_iload_n hx hb d_p38m27_2 rfl (lv_at hl 2 rfl) ?_
  refine pd_mmax X hl.1 (by omega) (by omega) mT_209 mT_210 mT_15 mT_211 (by decide) (Nat.le_of_ble_eq_true rfl) (by decide) (by decide) d_p38m27_3 ?_
  refine pd_iadd hx hb d_p38m27_6 ?_
  refine lv_istore_n (lv' := [(3, .int (nI (x + (max y z)))), (0, .int (nI x)), (1, .int (nI y)), (2, .int (nI z))]) hx hb d_p38m27_7 rfl hl (by decide) rfl (fun ls hl => ?_)
  refine lv_iconst (v := nI 0) hx hb d_p38m27_8 (by decide) ?_
  refine lv_iload_n hx hb d_p38m27_9 rfl (lv_at hl 0 rfl) ?_
  refine pd_jge (tgt := 21) hx hb d_p38m27_10 (by decide) (by omega) (by omega) (fun q1 => ?_) (fun q1 => ?_)
  · -- taken: 21
    exfalso
    omega
  · -- not taken: 13
    refine lv_iload_n hx hb d_p38m27_13 rfl (lv_at hl 0 rfl) ?_
    refine lv_ldc (v := nI 2147483639) hx hb X.2.2.2.2.1 (X.2.2.2.2.2.1 _ mT_212) d_p38m27_14 ?_
    refine pd_jgt (tgt := 21) hx hb d_p38m27_16 (by decide) (by omega) (by omega) (fun q2 => ?_) (fun q2 => ?_)
    · -- taken: 21
      exfalso
      omega
    · -- not taken: 19
      refine lv_iload_n hx hb d_p38m27_19 rfl (lv_at hl 0 rfl) ?_
      exact pd_nret (v := (x + (max y z))) X w ⟨rfl, rfl⟩ (by decide) (by decide) d_p38m27_20
theorem d_p17m10_0 : decode prog_17_method_10_code 0 = .ok (.aload_n 0, 1) := by decide +kernel
theorem d_p17m10_1 : decode prog_17_method_10_code 1 = .ok (.getfield 15, 3) := by decide +kernel
theorem d_p17m10_4 : decode prog_17_method_10_code 4 = .ok (.arraylength, 1) := by decide +kernel
theorem d_p17m10_5 : decode prog_17_method_10_code 5 = .ok (.istore_n 2, 1) := by decide +kernel
theorem d_p17m10_6 : decode prog_17_method_10_code 6 = .ok (.iload_n 1, 1) := by decide +kernel
theorem d_p17m10_7 : decode prog_17_method_10_code 7 = .ok (.aload_n 0, 1) := by decide +kernel
theorem d_p17m10_8 : decode prog_17_method_10_code 8 = .ok (.getfield 22, 3) := by decide +kernel
theorem d_p17m10_11 : decode prog_17_method_10_code 11 = .ok (.ishl, 1) := by decide +kernel
theorem d_p17m10_12 : decode prog_17_method_10_code 12 = .ok (.istore_n 3, 1) := by decide +kernel
theorem d_p17m10_13 : decode prog_17_method_10_code 13 = .ok (.iload_n 3, 1) := by decide +kernel
theorem d_p17m10_14 : decode prog_17_method_10_code 14 = .ok (.iload_n 2, 1) := by decide +kernel
theorem d_p17m10_15 : decode prog_17_method_10_code 15 = .ok (.isub, 1) := by decide +kernel
theorem d_p17m10_16 : decode prog_17_method_10_code 16 = .ok (.istore 4, 2) := by decide +kernel
theorem d_p17m10_18 : decode prog_17_method_10_code 18 = .ok (.iload_n 2, 1) := by decide +kernel
theorem d_p17m10_19 : decode prog_17_method_10_code 19 = .ok (.iload 4, 2) := by decide +kernel
theorem d_p17m10_21 : decode prog_17_method_10_code 21 = .ok (.iload_n 2, 1) := by decide +kernel
theorem d_p17m10_22 : decode prog_17_method_10_code 22 = .ok (.iconst 2, 1) := by decide +kernel
theorem d_p17m10_23 : decode prog_17_method_10_code 23 = .ok (.aload_n 0, 1) := by decide +kernel
theorem d_p17m10_24 : decode prog_17_method_10_code 24 = .ok (.getfield 22, 3) := by decide +kernel
theorem d_p17m10_27 : decode prog_17_method_10_code 27 = .ok (.ishl, 1) := by decide +kernel
theorem d_p17m10_28 : decode prog_17_method_10_code 28 = .ok (.iadd, 1) := by decide +kernel
theorem d_p17m10_29 : decode prog_17_method_10_code 29 = .ok (.invokestatic 114, 3) := by decide +kernel
theorem d_p17m10_32 : decode prog_17_method_10_code 32 = .ok (.istore 5, 2) := by decide +kernel
theorem d_p17m10_34 : decode prog_17_method_10_code 34 = .ok (.iload 5, 2) := by decide +kernel
theorem d_p17m10_36 : decode prog_17_method_10_code 36 = .ok (.ldc 39, 2) := by decide +kernel
theorem d_p17m10_38 : decode prog_17_method_10_code 38 = .ok (.if_icmp .ne 13, 3) := by decide +kernel
theorem d_p17m10_41 : decode prog_17_method_10_code 41 = .ok (.new 120, 3) := by decide +kernel
theorem d_p17m10_44 : decode prog_17_method_10_code 44 = .ok (.dup, 1) := by decide +kernel
theorem d_p17m10_45 : decode prog_17_method_10_code 45 = .ok (.ldc 122, 2) := by decide +kernel
theorem d_p17m10_47 : decode prog_17_method_10_code 47 = .ok (.invokespecial 124, 3) := by decide +kernel
theorem d_p17m10_50 : decode prog_17_method_10_code 50 = .ok (.athrow, 1) := by decide +kernel
theorem d_p17m10_51 : decode prog_17_method_10_code 51 = .ok (.iload 5, 2) := by decide +kernel
theorem d_p17m10_53 : decode prog_17_method_10_code 53 = .ok (.aload_n 0, 1) := by decide +kernel
theorem d_p17m10_54 : decode prog_17_method_10_code 54 = .ok (.getfield 22, 3) := by decide +kernel
theorem d_p17m10_57 : decode prog_17_method_10_code 57 = .ok (.ishr, 1) := by decide +kernel
theorem d_p17m10_58 : decode prog_17_method_10_code 58 = .ok (.ireturn, 1) := by decide +kernel
abbrev y_AbstractStringBuilder_newCapacity : MethodName := ⟨"java/lang/AbstractStringBuilder", "newCapacity", "(I)I"⟩
theorem ok_AbstractStringBuilder_newCapacity : pd_ok y_AbstractStringBuilder_newCapacity prog_17_method_10_code 6 (some .int) 1 := ⟨mT_429, mT_2, by decide, by decide +kernel⟩
abbrev rm_AbstractStringBuilder_newCapacity : Room := { frames := 2, cells := 0, slots := 0, locals := 44 }
set_option maxHeartbeats 4000000 in
set_option maxRecDepth 100000 in
theorem c_AbstractStringBuilder_newCapacity (l : Launch) (G : pd_G) (h : pd_H) {b v t1 t2 cap n : Nat} {ml : Bool} {f : Nat → Int32} {nd : Nat} (hob : h b = some (t1, .inr (11, [.ref v, .int (nI 0), .int (pd_b ml), .int (nI n)]))) (hov : h v = some (t2, .inl (.byte, cap, .inl f))) (htt : t2 ≠ t1) (hcap : cap ≤ 200) (hnc : n ≤ cap) (hfit : ∀ j, fits .byte (.int (f j)) = true) (hz_b : G.2.1 ≤ b) (hz_v : G.2.1 ≤ v) (hnd : cap < nd) (hnd2 : nd ≤ 100) : pd_M l y_AbstractStringBuilder_newCapacity prog_17_method_10_code 6 (some .int) rm_AbstractStringBuilder_newCapacity G h [.ref b, .int (nI nd)] pd_vn (fun r h1 => r = max nd (cap + (cap + 2)) ∧ h = h1) := by
  refine pd_M.of (by decide) (Nat.le_of_ble_eq_true rfl) ?_
  intro p e s m below meth c X hmn w ls hl
  have hx := X.1
  have hb := X.2.1
  have hl : lv_has ls 6 [(0, .ref b), (1, .int (nI nd))] := hl
  refine lv_aload_n hx hb d_p17m10_0 rfl (lv_at hl 0 rfl) ?_
  refine pd_get X w hob rfl 0 (by decide) mT_58 rfl rfl d_p17m10_1 ?_
  refine pd_alen X w hov d_p17m10_4 ?_
  refine lv_istore_n (lv' := [(2, .int (nI cap)), (0, .ref b), (1, .int (nI nd))]) hx hb d_p17m10_5 rfl hl (by decide) rfl (fun ls hl => ?_)
  refine lv_iload_n hx hb d_p17m10_6 rfl (lv_at hl 2 rfl) ?_
  refine lv_aload_n hx hb d_p17m10_7 rfl (lv_at hl 1 rfl) ?_
  refine pd_get X w hob rfl 1 (by decide) mT_59 rfl rfl d_p17m10_8 ?_
  refine pd_ishl0 hx hb d_p17m10_11 ?_
  refine lv_istore_n (lv' := [(3, .int (nI nd)), (2, .int (nI cap)), (0, .ref b), (1, .int (nI nd))]) hx hb d_p17m10_12 rfl hl (by decide) rfl (fun ls hl => ?_)
  refine lv_iload_n hx hb d_p17m10_13 rfl (lv_at hl 0 rfl) ?_
  refine lv_iload_n hx hb d_p17m10_14 rfl (lv_at hl 1 rfl) ?_
  refine pd_isub hx hb d_p17m10_15 (by omega) ?_
  refine lv_istore (lv' := [(4, .int (nI (nd - cap))), (3, .int (nI nd)), (2, .int (nI cap)), (0, .ref b), (1, .int (nI nd))]) hx hb d_p17m10_16 hl (by decide) rfl (fun ls hl => ?_)
  refine lv_iload_n hx hb d_p17m10_18 rfl (lv_at hl 2 rfl) ?_
  refine lv_iload hx hb d_p17m10_19 (lv_at hl 0 rfl) ?_
  refine lv_iload_n hx hb d_p17m10_21 rfl (lv_at hl 2 rfl) ?_
  refine lv_iconst (v := nI 2) hx hb d_p17m10_22 (by decide) ?_
  refine lv_aload_n hx hb d_p17m10_23 rfl (lv_at hl 3 rfl) ?_
  refine pd_get X w hob rfl 1 (by decide) mT_59 rfl rfl d_p17m10_24 ?_
  refine pd_ishl0 hx hb d_p17m10_27 ?_
  refine pd_iadd hx hb d_p17m10_28 ?_
  refine pd_cS (As := [.int (nI cap), .int (nI (nd - cap)), .int (nI (cap + 2))]) (rest := []) X w (c_ArraysSupport_newLength l G h (by omega) (by omega) (by omega) (by omega)) ok_ArraysSupport_newLength mT_207 mT_430 ⟨by decide, by decide⟩ rfl hl.1 rfl (Nat.le_of_ble_eq_true rfl) d_p17m10_29 ⟨by decide, by decide⟩ (fun r1 h2 H locs hp3 w => ?_)
  refine W.widen (k := 0) (n := 0) (by decide) (by decide) ?_
  obtain ⟨e4, rfl⟩ := hp3
  refine lv_istore (lv' := [(5, .int (nI r1)), (4, .int (nI (nd - cap))), (3, .int (nI nd)), (2, .int (nI cap)), (0, .ref b), (1, .int (nI nd))]) hx hb d_p17m10_32 hl (by decide) rfl (fun ls hl => ?_)
  refine lv_iload hx hb d_p17m10_34 (lv_at hl 0 rfl) ?_
  refine lv_ldc (v := nI 2147483647) hx hb X.2.2.2.2.1 (X.2.2.2.2.2.1 _ mT_431) d_p17m10_36 ?_
  refine pd_jne (tgt := 51) hx hb d_p17m10_38 (by decide) (by omega) (by omega) (fun q5 => ?_) (fun q5 => ?_)
  · -- taken: 51
    refine lv_iload hx hb d_p17m10_51 (lv_at hl 0 rfl) ?_
    refine lv_aload_n hx hb d_p17m10_53 rfl (lv_at hl 4 rfl) ?_
    refine pd_get X w hob rfl 1 (by decide) mT_59 rfl rfl d_p17m10_54 ?_
    refine pd_ishr0 hx hb d_p17m10_57 ?_
    exact pd_nret (v := r1) X w ⟨by omega, rfl⟩ (by decide) (by decide) d_p17m10_58
  · -- not taken: 41
    exfalso
    omega
theorem d_p32m121_0 : decode prog_32_method_121_code 0 = .ok (.iload_n 1, 1) := by decide +kernel
theorem d_p32m121_1 : decode prog_32_method_121_code 1 = .ok (.aload_n 0, 1) := by decide +kernel
theorem d_p32m121_2 : decode prog_32_method_121_code 2 = .ok (.arraylength, 1) := by decide +kernel
theorem d_p32m121_3 : decode prog_32_method_121_code 3 = .ok (.if_icmp .ne 11, 3) := by decide +kernel
theorem d_p32m121_6 : decode prog_32_method_121_code 6 = .ok (.aload_n 0, 1) := by decide +kernel
theorem d_p32m121_7 : decode prog_32_method_121_code 7 = .ok (.invokevirtual 310, 3) := by decide +kernel
theorem d_p32m121_10 : decode prog_32_method_121_code 10 = .ok (.checkcast 311, 3) := by decide +kernel
theorem d_p32m121_13 : decode prog_32_method_121_code 13 = .ok (.areturn, 1) := by decide +kernel
theorem d_p32m121_14 : decode prog_32_method_121_code 14 = .ok (.iload_n 1, 1) := by decide +kernel
theorem d_p32m121_15 : decode prog_32_method_121_code 15 = .ok (.newarray .byte, 2) := by decide +kernel
theorem d_p32m121_17 : decode prog_32_method_121_code 17 = .ok (.astore_n 2, 1) := by decide +kernel
theorem d_p32m121_18 : decode prog_32_method_121_code 18 = .ok (.aload_n 0, 1) := by decide +kernel
theorem d_p32m121_19 : decode prog_32_method_121_code 19 = .ok (.iconst 0, 1) := by decide +kernel
theorem d_p32m121_20 : decode prog_32_method_121_code 20 = .ok (.aload_n 2, 1) := by decide +kernel
theorem d_p32m121_21 : decode prog_32_method_121_code 21 = .ok (.iconst 0, 1) := by decide +kernel
theorem d_p32m121_22 : decode prog_32_method_121_code 22 = .ok (.aload_n 0, 1) := by decide +kernel
theorem d_p32m121_23 : decode prog_32_method_121_code 23 = .ok (.arraylength, 1) := by decide +kernel
theorem d_p32m121_24 : decode prog_32_method_121_code 24 = .ok (.iload_n 1, 1) := by decide +kernel
theorem d_p32m121_25 : decode prog_32_method_121_code 25 = .ok (.invokestatic 304, 3) := by decide +kernel
theorem d_p32m121_28 : decode prog_32_method_121_code 28 = .ok (.invokestatic 150, 3) := by decide +kernel
theorem d_p32m121_31 : decode prog_32_method_121_code 31 = .ok (.aload_n 2, 1) := by decide +kernel
theorem d_p32m121_32 : decode prog_32_method_121_code 32 = .ok (.areturn, 1) := by decide +kernel
abbrev y_Arrays_copyOfB : MethodName := ⟨"java/util/Arrays", "copyOf", "([BI)[B"⟩
theorem ok_Arrays_copyOfB : pd_ok y_Arrays_copyOfB prog_32_method_121_code 3 (some (.array .byte)) 2 := ⟨mT_434, mT_16, by decide, by decide +kernel⟩
abbrev rm_Arrays_copyOfB : Room := { frames := 1, cells := 1, slots := 200, locals := 40 }
set_option maxHeartbeats 4000000 in
set_option maxRecDepth 100000 in
theorem c_Arrays_copyOfB (l : Launch) (G : pd_G) (h : pd_H) {v1 n y t0 : Nat} {f1 : Nat → Int32} (tg : Nat) (hv : h v1 = some (t0, .inl (.byte, n, .inl f1))) (hny : n < y) (hy2 : y ≤ 200) (hfit : sb_Fit f1) : pd_M l y_Arrays_copyOfB prog_32_method_121_code 3 (some (.array .byte)) rm_Arrays_copyOfB G h [.ref v1, .int (nI y)] Value.ref (fun r h1 => pd_kx [] h h1 ∧ G.2.1 ≤ r ∧ ∃ g, h1 r = some (tg, .inl (.byte, y, .inl g)) ∧ (∀ j, j < n → g j = f1 j) ∧ sb_Fit g) := by
  refine pd_M.of (by decide) (Nat.le_of_ble_eq_true rfl) ?_
  intro p e s m below meth c X hmn w ls hl
  have hx := X.1
  have hb := X.2.1
  have hl : lv_has ls 3 [(0, .ref v1), (1, .int (nI y))] := hl
  refine lv_iload_n hx hb d_p32m121_0 rfl (lv_at hl 1 rfl) ?_
  refine lv_aload_n hx hb d_p32m121_1 rfl (lv_at hl 0 rfl) ?_
  refine pd_alen X w hv d_p32m121_2 ?_
  refine pd_jne (tgt := 14) hx hb d_p32m121_3 (by decide) (by omega) (by omega) (fun q1 => ?_) (fun q1 => ?_)
  · -- taken: 14
    refine lv_iload_n hx hb d_p32m121_14 rfl (lv_at hl 1 rfl) ?_
    refine pd_newa (ty := .byte) (x := (y, .inl (fun _ => 0))) tg X w rfl mT_72 rfl rfl (by omega) (by decide) (fun _ h9 => h9) (by decide) (Nat.le_trans (Nat.add_le_add_left (by omega : y ≤ 200) _) (by decide)) d_p32m121_15 (fun q2 H hq3 hz4 w => ?_)
    refine W.widen (k := 1) (n := 200) (by decide) (by omega) ?_
    obtain ⟨h5, u8⟩ : ∃ z, z = pd_up h q2 (tg, .inl (.byte, y, .inl (fun _ => 0))) := ⟨_, rfl⟩
    rw [← u8] at w
    have k6 : pd_kx [] h h5 := by rw [u8]; exact pd_new_kx hq3
    have f7 : h5 q2 = some (tg, .inl (.byte, y, .inl (fun _ => 0))) := by rw [u8]; exact pd_up_s _ _ _
    have f9 := k6 _ _ hv List.not_mem_nil
    refine lv_astore_n (lv' := [(2, .ref q2), (0, .ref v1), (1, .int (nI y))]) hx hb d_p32m121_17 rfl hl (by decide) rfl (fun ls hl => ?_)
    refine lv_aload_n hx hb d_p32m121_18 rfl (lv_at hl 1 rfl) ?_
    refine lv_iconst (v := nI 0) hx hb d_p32m121_19 (by decide) ?_
    refine lv_aload_n hx hb d_p32m121_20 rfl (lv_at hl 0 rfl) ?_
    refine lv_iconst (v := nI 0) hx hb d_p32m121_21 (by decide) ?_
    refine lv_aload_n hx hb d_p32m121_22 rfl (lv_at hl 1 rfl) ?_
    refine pd_alen X w f9 d_p32m121_23 ?_
    refine lv_iload_n hx hb d_p32m121_24 rfl (lv_at hl 2 rfl) ?_
    refine pd_mmin X hl.1 (by omega) (by omega) mT_244 mT_245 mT_15 mT_246 (by decide) (Nat.le_of_ble_eq_true rfl) (by decide) (by decide) d_p32m121_25 ?_
    refine pd_top (v' := .int (nI n)) (by rw [Nat.min_eq_left (by omega)]) ?_
    refine pd_bcopy X hl.1 w f9 f7 hz4 mT_247 mT_249 mT_248 mT_17 (by omega) (by omega) (by omega) (by omega) (fun i hi => hfit _) (by decide) (Nat.le_of_ble_eq_true rfl) d_p32m121_28 (fun H locs w => ?_)
    have w : pd_w G s H locs (pd_up h5 q2 (tg, .inl (.byte, y, .inl (va_cpy f1 (fun _ => 0) 0 0 n)))) := w
    obtain ⟨h10, u13⟩ : ∃ z, z = pd_up h5 q2 (tg, .inl (.byte, y, .inl (va_cpy f1 (fun _ => 0) 0 0 n))) := ⟨_, rfl⟩
    rw [← u13] at w
    have k11 : pd_kq q2 h5 h10 := by rw [u13]; exact pd_up_kq
    have f12 : h10 q2 = some (tg, .inl (.byte, y, .inl (va_cpy f1 (fun _ => 0) 0 0 n))) := by rw [u13]; exact pd_up_s _ _ _
    have f14 := k11 _ _ (pd_nn hv hq3) f9
    refine lv_aload_n hx hb d_p32m121_31 rfl (lv_at hl 0 rfl) ?_
    have kt15 : pd_kx [] h h10 := by
      intro ya c9 ys0 n9
      have ys1 := k6 ya c9 ys0 List.not_mem_nil
      have ys2 := k11 ya c9 (pd_nn ys0 hq3) ys1
      exact ys2
    exact pd_aret (v := q2) X (Or.inr ⟨_, rfl⟩) w ⟨kt15, hz4, _, f12, fun j hj => by rw [pk_cpy_in (by omega) (by omega)]; exact congrArg f1 (by omega), sb_fitC hfit sb_fit0⟩ (by decide) (by decide) d_p32m121_32
  · -- not taken: 6
    exfalso
    omega
theorem d_p17m9_0 : decode prog_17_method_9_code 0 = .ok (.aload_n 0, 1) := by decide +kernel
theorem d_p17m9_1 : decode prog_17_method_9_code 1 = .ok (.getfield 15, 3) := by decide +kernel
theorem d_p17m9_4 : decode prog_17_method_9_code 4 = .ok (.arraylength, 1) := by decide +kernel
theorem d_p17m9_5 : decode prog_17_method_9_code 5 = .ok (.aload_n 0, 1) := by decide +kernel
theorem d_p17m9_6 : decode prog_17_method_9_code 6 = .ok (.getfield 22, 3) := by decide +kernel
theorem d_p17m9_9 : decode prog_17_method_9_code 9 = .ok (.ishr, 1) := by decide +kernel
theorem d_p17m9_10 : decode prog_17_method_9_code 10 = .ok (.istore_n 2, 1) := by decide +kernel
theorem d_p17m9_11 : decode prog_17_method_9_code 11 = .ok (.iload_n 1, 1) := by decide +kernel
theorem d_p17m9_12 : decode prog_17_method_9_code 12 = .ok (.iload_n 2, 1) := by decide +kernel
theorem d_p17m9_13 : decode prog_17_method_9_code 13 = .ok (.isub, 1) := by decide +kernel
theorem d_p17m9_14 : decode prog_17_method_9_code 14 = .ok (.ifCond .le 24, 3) := by decide +kernel
theorem d_p17m9_17 : decode prog_17_method_9_code 17 = .ok (.aload_n 0, 1) := by decide +kernel
theorem d_p17m9_18 : decode prog_17_method_9_code 18 = .ok (.aload_n 0, 1) := by decide +kernel
theorem d_p17m9_19 : decode prog_17_method_9_code 19 = .ok (.getfield 15, 3) := by decide +kernel
theorem d_p17m9_22 : decode prog_17_method_9_code 22 = .ok (.aload_n 0, 1) := by decide +kernel
theorem d_p17m9_23 : decode prog_17_method_9_code 23 = .ok (.iload_n 1, 1) := by decide +kernel
theorem d_p17m9_24 : decode prog_17_method_9_code 24 = .ok (.invokevirtual 104, 3) := by decide +kernel
theorem d_p17m9_27 : decode prog_17_method_9_code 27 = .ok (.aload_n 0, 1) := by decide +kernel
theorem d_p17m9_28 : decode prog_17_method_9_code 28 = .ok (.getfield 22, 3) := by decide +kernel
theorem d_p17m9_31 : decode prog_17_method_9_code 31 = .ok (.ishl, 1) := by decide +kernel
theorem d_p17m9_32 : decode prog_17_method_9_code 32 = .ok (.invokestatic 108, 3) := by decide +kernel
theorem d_p17m9_35 : decode prog_17_method_9_code 35 = .ok (.putfield 15, 3) := by decide +kernel
theorem d_p17m9_38 : decode prog_17_method_9_code 38 = .ok (.return_, 1) := by decide +kernel
abbrev y_AbstractStringBuilder_ensureCapacityInternal : MethodName := ⟨"java/lang/AbstractStringBuilder", "ensureCapacityInternal", "(I)V"⟩
theorem ok_AbstractStringBuilder_ensureCapacityInternal : pd_ok y_AbstractStringBuilder_ensureCapacityInternal prog_17_method_9_code 3 none 1 := ⟨mT_425, mT_2, by decide, by decide +kernel⟩
abbrev rm_AbstractStringBuilder_ensureCapacityInternal : Room := { frames := 3, cells := 1, slots := 200, locals := 69 }
set_option maxHeartbeats 4000000 in
set_option maxRecDepth 100000 in
theorem c_AbstractStringBuilder_ensureCapacityInternal (l : Launch) (G : pd_G) (h : pd_H) {b v t1 t2 cap n : Nat} {ml : Bool} {f : Nat → Int32} {nd : Nat} (hob : h b = some (t1, .inr (11, [.ref v, .int (nI 0), .int (pd_b ml), .int (nI n)]))) (hov : h v = some (t2, .inl (.byte, cap, .inl f))) (htt : t2 ≠ t1) (hcap : cap ≤ 200) (hnc : n ≤ cap) (hfit : ∀ j, fits .byte (.int (f j)) = true) (hz_b : G.2.1 ≤ b) (hz_v : G.2.1 ≤ v) (hnd2 : nd ≤ 100) : pd_Mv l y_AbstractStringBuilder_ensureCapacityInternal prog_17_method_9_code 3 rm_AbstractStringBuilder_ensureCapacityInternal G h [.ref b, .int (nI nd)] (fun h1 => pd_kx [t1] h h1 ∧ ∃ (v2 cap2 : Nat) (f2 : Nat → Int32), h1 b = some (t1, .inr (11, [.ref v2, .int (nI 0), .int (pd_b ml), .int (nI n)])) ∧ h1 v2 = some (t2, .inl (.byte, cap2, .inl f2)) ∧ (∀ j, j < n → f2 j = f j) ∧ nd ≤ cap2 ∧ n ≤ cap2 ∧ cap2 ≤ 200 ∧ (∀ j, fits .byte (.int (f2 j)) = true) ∧ G.2.1 ≤ v2) := by
  refine pd_Mv.of (by decide) (Nat.le_of_ble_eq_true rfl) ?_
  intro p e s m below meth c X hmn w ls hl
  have hx := X.1
  have hb := X.2.1
  have hl : lv_has ls 3 [(0, .ref b), (1, .int (nI nd))] := hl
  refine lv_aload_n hx hb d_p17m9_0 rfl (lv_at hl 0 rfl) ?_
  refine pd_get X w hob rfl 0 (by decide) mT_58 rfl rfl d_p17m9_1 ?_
  refine pd_alen X w hov d_p17m9_4 ?_
  refine lv_aload_n hx hb d_p17m9_5 rfl (lv_at hl 0 rfl) ?_
  refine pd_get X w hob rfl 1 (by decide) mT_59 rfl rfl d_p17m9_6 ?_
  refine pd_ishr0 hx hb d_p17m9_9 ?_
  refine lv_istore_n (lv' := [(2, .int (nI cap)), (0, .ref b), (1, .int (nI nd))]) hx hb d_p17m9_10 rfl hl (by decide) rfl (fun ls hl => ?_)
  refine lv_iload_n hx hb d_p17m9_11 rfl (lv_at hl 2 rfl) ?_
  refine lv_iload_n hx hb d_p17m9_12 rfl (lv_at hl 0 rfl) ?_
  refine lv_isub hx hb d_p17m9_13 ?_
  refine pd_sle (tgt := 38) hx hb d_p17m9_14 (by decide) (by omega) (by omega) (fun q1 => ?_) (fun q1 => ?_)
  · -- taken: 38
    exact pd_vret X w ⟨pd_kx.rf, v, cap, f, hob, hov, fun _ _ => rfl, by omega, by omega, hcap, hfit, hz_v⟩ (by decide) (by decide) d_p17m9_38
  · -- not taken: 17
    refine lv_aload_n hx hb d_p17m9_17 rfl (lv_at hl 1 rfl) ?_
    refine lv_aload_n hx hb d_p17m9_18 rfl (lv_at hl 1 rfl) ?_
    refine pd_get X w hob rfl 0 (by decide) mT_58 rfl rfl d_p17m9_19 ?_
    refine lv_aload_n hx hb d_p17m9_22 rfl (lv_at hl 1 rfl) ?_
    refine lv_iload_n hx hb d_p17m9_23 rfl (lv_at hl 2 rfl) ?_
    refine pd_cU (a := b) (As := [.int (nI nd)]) (rest := [.ref v, .ref b]) X w hob rfl (c_AbstractStringBuilder_newCapacity l G h (by assumption) (by assumption) (by assumption) (by assumption) (by assumption) (by assumption) (by assumption) (by assumption) (by omega) (by omega)) ok_AbstractStringBuilder_newCapacity rfl ⟨mT_428, (X.px (List.mem_of_getElem? (i := 1) rfl)), mT_1483⟩ mT_426 ⟨by decide, by decide⟩ rfl hl.1 rfl (Nat.le_of_ble_eq_true rfl) d_p17m9_24 ⟨by decide, by decide⟩ (fun r2 h3 H locs hp4 w => ?_)
    refine W.widen (k := 0) (n := 0) (by decide) (by decide) ?_
    obtain ⟨e5, rfl⟩ := hp4
    refine lv_aload_n hx hb d_p17m9_27 rfl (lv_at hl 1 rfl) ?_
    refine pd_get X w hob rfl 1 (by decide) mT_59 rfl rfl d_p17m9_28 ?_
    refine pd_ishl0 hx hb d_p17m9_31 ?_
    refine pd_cS (As := [.ref v, .int (nI r2)]) (rest := [.ref b]) X w (c_Arrays_copyOfB l G h t2 (by assumption) (by omega) (by omega) (by assumption)) ok_Arrays_copyOfB mT_433 mT_432 ⟨by decide, by decide⟩ rfl hl.1 rfl (Nat.le_of_ble_eq_true rfl) d_p17m9_32 ⟨by decide, by decide⟩ (fun r6 h7 H locs hp8 w => ?_)
    refine W.widen (k := 1) (n := 200) (by decide) (by decide) ?_
    obtain ⟨k9, hz10, g11, f12, gf13, ft14⟩ := hp8
    have f15 := k9 _ _ hob List.not_mem_nil
    have f16 := k9 _ _ hov List.not_mem_nil
    refine pd_put (ty := (.array .byte)) X w f15 hz_b rfl 0 (by decide) mT_58 rfl rfl (by decide +kernel) rfl rfl (Nat.le_of_ble_eq_true rfl) d_p17m9_35 (fun H locs w => ?_)
    have w : pd_w G s H locs (pd_up h7 b (t1, .inr (11, [.ref r6, .int (nI 0), .int (pd_b ml), .int (nI n)]))) := w
    obtain ⟨h17, u20⟩ : ∃ z, z = pd_up h7 b (t1, .inr (11, [.ref r6, .int (nI 0), .int (pd_b ml), .int (nI n)])) := ⟨_, rfl⟩
    rw [← u20] at w
    have k18 : pd_kq b h7 h17 := by rw [u20]; exact pd_up_kq
    have f19 : h17 b = some (t1, .inr (11, [.ref r6, .int (nI 0), .int (pd_b ml), .int (nI n)])) := by rw [u20]; exact pd_up_s _ _ _
    have f21 := k18 _ _ (pd_ne f16 f15 (by simp [htt])) f16
    have f22 := k18 _ _ (pd_ne f12 f15 (by simp [htt])) f12
    exact pd_vret X w ⟨pd_kx.tr (pd_kx.mono (us := [t1]) (k9) (by simp)) (pd_kq.kx (k18) f15), _, _, _, f19, f22, fun j hj => gf13 j (by omega), by omega, by omega, by omega, ft14, hz10⟩ (by decide) (by decide) d_p17m9_38
