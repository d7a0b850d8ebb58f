theorem d_p17m68_0 : decode prog_17_method_68_code 0 = .ok (.getstatic 18, 3) := by decide +kernel
theorem d_p17m68_3 : decode prog_17_method_68_code 3 = .ok (.ifCond .eq 14, 3) := by decide +kernel
theorem d_p17m68_6 : decode prog_17_method_68_code 6 = .ok (.aload_n 0, 1) := by decide +kernel
theorem d_p17m68_7 : decode prog_17_method_68_code 7 = .ok (.getfield 22, 3) := by decide +kernel
theorem d_p17m68_10 : decode prog_17_method_68_code 10 = .ok (.ifCond .ne 7, 3) := by decide +kernel
theorem d_p17m68_13 : decode prog_17_method_68_code 13 = .ok (.iconst 1, 1) := by decide +kernel
theorem d_p17m68_14 : decode prog_17_method_68_code 14 = .ok (.goto 4, 3) := by decide +kernel
theorem d_p17m68_17 : decode prog_17_method_68_code 17 = .ok (.iconst 0, 1) := by decide +kernel
theorem d_p17m68_18 : decode prog_17_method_68_code 18 = .ok (.ireturn, 1) := by decide +kernel
abbrev y_AbstractStringBuilder_isLatin1 : MethodName := ⟨"java/lang/AbstractStringBuilder", "isLatin1", "()Z"⟩
theorem ok_AbstractStringBuilder_isLatin1 : pd_ok y_AbstractStringBuilder_isLatin1 prog_17_method_68_code 1 (some .boolean) 0 := ⟨mT_446, mT_2, by decide, by decide +kernel⟩
abbrev rm_AbstractStringBuilder_isLatin1 : Room := { frames := 0, cells := 0, slots := 0, locals := 0 }
set_option maxHeartbeats 4000000 in
set_option maxRecDepth 100000 in
theorem c_AbstractStringBuilder_isLatin1 (l : Launch) (G : pd_G) (h : pd_H) {b v t1 t2 cap n : Nat} {ml : Bool} {f : Nat → Int32} (hob : h b = some (t1, .inr (11, [.ref v, .int (nI 0), .int (pd_b ml), .int (nI n)]))) (hov : h v = some (t2, .inl (.byte, cap, .inl f))) (htt : t2 ≠ t1) (hcap : cap ≤ 200) (hnc : n ≤ cap) (hfit : ∀ j, fits .byte (.int (f j)) = true) (hz_b : G.2.1 ≤ b) (hz_v : G.2.1 ≤ v) : pd_M l y_AbstractStringBuilder_isLatin1 prog_17_method_68_code 1 (some .boolean) rm_AbstractStringBuilder_isLatin1 G h [.ref b] pd_vb (fun r h1 => r = true ∧ h = h1) := by
  refine pd_M.of (by decide) (Nat.le_of_ble_eq_true rfl) ?_
  intro p e s m below meth c X hmn w ls hl
  have hx := X.1
  have hb := X.2.1
  have hl : lv_has ls 1 [(0, .ref b)] := hl
  refine pd_gets X w (List.mem_of_getElem? (i := 0) rfl) mT_49 d_p17m68_0 ?_
  refine pd_zeq (tgt := 17) hx hb d_p17m68_3 (by decide) (by decide) (fun q => absurd q (by decide)) (fun _ => ?_)
  refine lv_aload_n hx hb d_p17m68_6 rfl (lv_at hl 0 rfl) ?_
  refine pd_get X w hob rfl 1 (by decide) mT_59 rfl rfl d_p17m68_7 ?_
  refine pd_zne (tgt := 17) hx hb d_p17m68_10 (by decide) (by decide) (fun q => absurd q (by decide)) (fun _ => ?_)
  refine lv_iconst (v := nI 1) hx hb d_p17m68_13 (by decide) ?_
  refine lv_goto (tgt := 18) hx hb d_p17m68_14 (by decide) ?_
  refine W.eq (g2 := F0 m 18 ls [.int (pd_b true)]) rfl ?_
  exact pd_zret (v := true) X w ⟨rfl, rfl⟩ (by decide) (by decide) d_p17m68_18
theorem d_p17m6_0 : decode prog_17_method_6_code 0 = .ok (.aload_n 0, 1) := by decide +kernel
theorem d_p17m6_1 : decode prog_17_method_6_code 1 = .ok (.getfield 79, 3) := by decide +kernel
theorem d_p17m6_4 : decode prog_17_method_6_code 4 = .ok (.ireturn, 1) := by decide +kernel
abbrev y_AbstractStringBuilder_length : MethodName := ⟨"java/lang/AbstractStringBuilder", "length", "()I"⟩
theorem ok_AbstractStringBuilder_length : pd_ok y_AbstractStringBuilder_length prog_17_method_6_code 1 (some .int) 0 := ⟨mT_414, mT_2, by decide, by decide +kernel⟩
abbrev rm_AbstractStringBuilder_length : Room := { frames := 0, cells := 0, slots := 0, locals := 0 }
set_option maxHeartbeats 4000000 in
set_option maxRecDepth 100000 in
theorem c_AbstractStringBuilder_length (l : Launch) (G : pd_G) (h : pd_H) {b v t1 t2 cap n : Nat} {ml : Bool} {f : Nat → Int32} (hob : h b = some (t1, .inr (11, [.ref v, .int (nI 0), .int (pd_b ml), .int (nI n)]))) (hov : h v = some (t2, .inl (.byte, cap, .inl f))) (htt : t2 ≠ t1) (hcap : cap ≤ 200) (hnc : n ≤ cap) (hfit : ∀ j, fits .byte (.int (f j)) = true) (hz_b : G.2.1 ≤ b) (hz_v : G.2.1 ≤ v) : pd_M l y_AbstractStringBuilder_length prog_17_method_6_code 1 (some .int) rm_AbstractStringBuilder_length G h [.ref b] pd_vn (fun r h1 => r = n ∧ h = h1) := by
  refine pd_M.of (by decide) (Nat.le_of_ble_eq_true rfl) ?_
  intro p e s m below meth c X hmn w ls hl
  have hx := X.1
  have hb := X.2.1
  have hl : lv_has ls 1 [(0, .ref b)] := hl
  refine lv_aload_n hx hb d_p17m6_0 rfl (lv_at hl 0 rfl) ?_
  refine pd_get X w hob rfl 3 (by decide) mT_62 rfl rfl d_p17m6_1 ?_
  exact pd_nret (v := n) X w ⟨rfl, rfl⟩ (by decide) (by decide) d_p17m6_4
theorem d_p25m93_0 : decode prog_25_method_93_code 0 = .ok (.aload_n 0, 1) := by decide +kernel
theorem d_p25m93_1 : decode prog_25_method_93_code 1 = .ok (.invokespecial 343, 3) := by decide +kernel
theorem d_p25m93_4 : decode prog_25_method_93_code 4 = .ok (.ireturn, 1) := by decide +kernel
abbrev y_StringBuilder_length : MethodName := ⟨"java/lang/StringBuilder", "length", "()I"⟩
theorem ok_StringBuilder_length : pd_ok y_StringBuilder_length prog_25_method_93_code 1 (some .int) 0 := ⟨mT_411, mT_3, by decide, by decide +kernel⟩
abbrev rm_StringBuilder_length : Room := { frames := 1, cells := 0, slots := 0, locals := 20 }
set_option maxHeartbeats 4000000 in
set_option maxRecDepth 100000 in
theorem c_StringBuilder_length (l : Launch) (G : pd_G) (h : pd_H) {b v t1 t2 cap n : Nat} {ml : Bool} {f : Nat → Int32} (hob : h b = some (t1, .inr (11, [.ref v, .int (nI 0), .int (pd_b ml), .int (nI n)]))) (hov : h v = some (t2, .inl (.byte, cap, .inl f))) (htt : t2 ≠ t1) (hcap : cap ≤ 200) (hnc : n ≤ cap) (hfit : ∀ j, fits .byte (.int (f j)) = true) (hz_b : G.2.1 ≤ b) (hz_v : G.2.1 ≤ v) : pd_M l y_StringBuilder_length prog_25_method_93_code 1 (some .int) rm_StringBuilder_length G h [.ref b] pd_vn (fun r h1 => r = n ∧ h = h1) := by
  refine pd_M.of (by decide) (Nat.le_of_ble_eq_true rfl) ?_
  intro p e s m below meth c X hmn w ls hl
  have hx := X.1
  have hb := X.2.1
  have hl : lv_has ls 1 [(0, .ref b)] := hl
  refine lv_aload_n hx hb d_p25m93_0 rfl (lv_at hl 0 rfl) ?_
  refine pd_cW (a := b) (As := []) (rest := []) X w hob rfl (c_AbstractStringBuilder_length l G h (by assumption) (by assumption) (by assumption) (by assumption) (by assumption) (by assumption) (by assumption) (by assumption)) ok_AbstractStringBuilder_length (by decide) ⟨mT_413, mT_71, mT_1480⟩ mT_412 ⟨by decide, by decide⟩ rfl hl.1 rfl (Nat.le_of_ble_eq_true rfl) d_p25m93_1 ⟨by decide, by decide⟩ (fun r1 h2 H locs hp3 w => ?_)
  refine W.widen (k := 0) (n := 0) (by decide) (by decide) ?_
  obtain ⟨e4, rfl⟩ := hp3
  exact pd_nret (v := r1) X w ⟨by assumption, rfl⟩ (by decide) (by decide) d_p25m93_4
theorem d_p38m27_0 : decode prog_38_method_27_code 0 = .ok (.iload_n 0, 1) := by decide +kernel
theorem d_p38m27_1 : decode prog_38_method_27_code 1 = .ok (.iload_n 1, 1) := by decide +kernel
theorem d_p38m27_2 : decode prog_38_method_27_code 2 = .ok (.iload_n 2, 1) := by decide +kernel
theorem d_p38m27_3 : decode prog_38_method_27_code 3 = .ok (.invokestatic 194, 3) := by decide +kernel
theorem d_p38m27_6 : decode prog_38_method_27_code 6 = .ok (.iadd, 1) := by decide +kernel
theorem d_p38m27_7 : decode prog_38_method_27_code 7 = .ok (.istore_n 3, 1) := by decide +kernel
theorem d_p38m27_8 : decode prog_38_method_27_code 8 = .ok (.iconst 0, 1) := by decide +kernel
theorem d_p38m27_9 : decode prog_38_method_27_code 9 = .ok (.iload_n 3, 1) := by decide +kernel
theorem d_p38m27_10 : decode prog_38_method_27_code 10 = .ok (.if_icmp .ge 11, 3) := by decide +kernel
theorem d_p38m27_13 : decode prog_38_method_27_code 13 = .ok (.iload_n 3, 1) := by decide +kernel
theorem d_p38m27_14 : decode prog_38_method_27_code 14 = .ok (.ldc 200, 2) := by decide +kernel
theorem d_p38m27_16 : decode prog_38_method_27_code 16 = .ok (.if_icmp .gt 5, 3) := by decide +kernel
theorem d_p38m27_19 : decode prog_38_method_27_code 19 = .ok (.iload_n 3, 1) := by decide +kernel
theorem d_p38m27_20 : decode prog_38_method_27_code 20 = .ok (.ireturn, 1) := by decide +kernel
theorem d_p38m27_21 : decode prog_38_method_27_code 21 = .ok (.iload_n 0, 1) := by decide +kernel
theorem d_p38m27_22 : decode prog_38_method_27_code 22 = .ok (.iload_n 1, 1) := by decide +kernel
theorem d_p38m27_23 : decode prog_38_method_27_code 23 = .ok (.invokestatic 201, 3) := by decide +kernel
theorem d_p38m27_26 : decode prog_38_method_27_code 26 = .ok (.ireturn, 1) := by decide +kernel
abbrev y_ArraysSupport_newLength : MethodName := ⟨"jdk/internal/util/ArraysSupport", "newLength", "(III)I"⟩
theorem ok_ArraysSupport_newLength : pd_ok y_ArraysSupport_newLength prog_38_method_27_code 4 (some .int) 3 := ⟨mT_208, mT_14, by decide, by decide +kernel⟩
abbrev rm_ArraysSupport_newLength : Room := { frames := 1, cells := 0, slots := 0, locals := 21 }
set_option maxHeartbeats 4000000 in
set_option maxRecDepth 100000 in
theorem c_ArraysSupport_newLength (l : Launch) (G : pd_G) (h : pd_H) {x y z : Nat} (hx1 : x ≤ 1000) (hy1 : y ≤ 1000) (hz1 : z ≤ 1000) (hp1 : 0 < z) : pd_M l y_ArraysSupport_newLength prog_38_method_27_code 4 (some .int) rm_ArraysSupport_newLength G h [.int (nI x), .int (nI y), .int (nI z)] pd_vn (fun r h1 => r = x + max y z ∧ h = h1) := by
  refine pd_M.of (by decide) (Nat.le_of_ble_eq_true rfl) ?_
  intro p e s m below meth c X hmn w ls hl
  have hx := X.1
  have hb := X.2.1
  have hl : lv_has ls 4 [(0, .int (nI x)), (1, .int (nI y)), (2, .int (nI z))] := hl
  refine lv_iload_n hx hb d_p38m27_0 rfl (lv_at hl 0 rfl) ?_
  refine lv_iload_n hx hb d_p38m27_1 rfl (lv_at hl 1 rfl) ?_
  refine lv_iload_n hx hb d_p38m27_2 rfl (lv_at hl 2 rfl) ?_
  refine pd_mmax X hl.1 (by omega) (by omega) mT_209 mT_210 mT_15 mT_211 (by decide) (Nat.le_of_ble_eq_true rfl) (by decide) (by decide) d_p38m27_3 ?_
  refine pd_iadd hx hb d_p38m27_6 ?_
  refine lv_istore_n (lv' := [(3, .int (nI (x + (max y z)))), (0, .int (nI x)), (1, .int (nI y)), (2, .int (nI z))]) hx hb d_p38m27_7 rfl hl (by decide) rfl (fun ls hl => ?_)
  refine lv_iconst (v := nI 0) hx hb d_p38m27_8 (by decide) ?_
  refine lv_iload_n hx hb d_p38m27_9 rfl (lv_at hl 0 rfl) ?_
  refine pd_jge (tgt := 21) hx hb d_p38m27_10 (by decide) (by omega) (by omega) (fun q1 => ?_) (fun q1 => ?_)
  · -- taken: 21
    exfalso
    omega
  · -- not taken: 13
    refine lv_iload_n hx hb d_p38m27_13 rfl (lv_at hl 0 rfl) ?_
    refine lv_ldc (v := nI 2147483639) hx hb X.2.2.2.2.1 (X.2.2.2.2.2.1 _ mT_212) d_p38m27_14 ?_
    refine pd_jgt (tgt := 21) hx hb d_p38m27_16 (by decide) (by omega) (by omega) (fun q2 => ?_) (fun q2 => ?_)
    · -- taken: 21
      exfalso
      omega
    · -- not taken: 19
      refine lv_iload_n hx hb d_p38m27_19 rfl (lv_at hl 0 rfl) ?_
      exact pd_nret (v := (x + (max y z))) X w ⟨rfl, rfl⟩ (by decide) (by decide) d_p38m27_20
theorem d_p17m10_0 : decode prog_17_method_10_code 0 = .ok (.aload_n 0, 1) := by decide +kernel
theorem d_p17m10_1 : decode prog_17_method_10_code 1 = .ok (.getfield 15, 3) := by decide +kernel
theorem d_p17m10_4 : decode prog_17_method_10_code 4 = .ok (.arraylength, 1) := by decide +kernel
theorem d_p17m10_5 : decode prog_17_method_10_code 5 = .ok (.istore_n 2, 1) := by decide +kernel
theorem d_p17m10_6 : decode prog_17_method_10_code 6 = .ok (.iload_n 1, 1) := by decide +kernel
theorem d_p17m10_7 : decode prog_17_method_10_code 7 = .ok (.aload_n 0, 1) := by decide +kernel
theorem d_p17m10_8 : decode prog_17_method_10_code 8 = .ok (.getfield 22, 3) := by decide +kernel
theorem d_p17m10_11 : decode prog_17_method_10_code 11 = .ok (.ishl, 1) := by decide +kernel
theorem d_p17m10_12 : decode prog_17_method_10_code 12 = .ok (.istore_n 3, 1) := by decide +kernel
theorem d_p17m10_13 : decode prog_17_method_10_code 13 = .ok (.iload_n 3, 1) := by decide +kernel
theorem d_p17m10_14 : decode prog_17_method_10_code 14 = .ok (.iload_n 2, 1) := by decide +kernel
theorem d_p17m10_15 : decode prog_17_method_10_code 15 = .ok (.isub, 1) := by decide +kernel
theorem d_p17m10_16 : decode prog_17_method_10_code 16 = .ok (.istore 4, 2) := by decide +kernel
theorem d_p17m10_18 : decode prog_17_method_10_code 18 = .ok (.iload_n 2, 1) := by decide +kernel
theorem d_p17m10_19 : decode prog_17_method_10_code 19 = .ok (.iload 4, 2) := by decide +kernel
theorem d_p17m10_21 : decode prog_17_method_10_code 21 = .ok (.iload_n 2, 1) := by decide +kernel
theorem d_p17m10_22 : decode prog_17_method_10_code 22 = .ok (.iconst 2, 1) := by decide +kernel
theorem d_p17m10_23 : decode prog_17_method_10_code 23 = .ok (.aload_n 0, 1) := by decide +kernel
theorem d_p17m10_24 : decode prog_17_method_10_code 24 = .ok (.getfield 22, 3) := by decide +kernel
theorem d_p17m10_27 : decode prog_17_method_10_code 27 = .ok (.ishl, 1) := by decide +kernel
theorem d_p17m10_28 : decode prog_17_method_10_code 28 = .ok (.iadd, 1) := by decide +kernel
theorem d_p17m10_29 : decode prog_17_method_10_code 29 = .ok (.invokestatic 114, 3) := by decide +kernel
theorem d_p17m10_32 : decode prog_17_method_10_code 32 = .ok (.istore 5, 2) := by decide +kernel
theorem d_p17m10_34 : decode prog_17_method_10_code 34 = .ok (.iload 5, 2) := by decide +kernel
theorem d_p17m10_36 : decode prog_17_method_10_code 36 = .ok (.ldc 39, 2) := by decide +kernel
theorem d_p17m10_38 : decode prog_17_method_10_code 38 = .ok (.if_icmp .ne 13, 3) := by decide +kernel
theorem d_p17m10_41 : decode prog_17_method_10_code 41 = .ok (.new 120, 3) := by decide +kernel
theorem d_p17m10_44 : decode prog_17_method_10_code 44 = .ok (.dup, 1) := by decide +kernel
theorem d_p17m10_45 : decode prog_17_method_10_code 45 = .ok (.ldc 122, 2) := by decide +kernel
theorem d_p17m10_47 : decode prog_17_method_10_code 47 = .ok (.invokespecial 124, 3) := by decide +kernel
theorem d_p17m10_50 : decode prog_17_method_10_code 50 = .ok (.athrow, 1) := by decide +kernel
theorem d_p17m10_51 : decode prog_17_method_10_code 51 = .ok (.iload 5, 2) := by decide +kernel
theorem d_p17m10_53 : decode prog_17_method_10_code 53 = .ok (.aload_n 0, 1) := by decide +kernel
theorem d_p17m10_54 : decode prog_17_method_10_code 54 = .ok (.getfield 22, 3) := by decide +kernel
theorem d_p17m10_57 : decode prog_17_method_10_code 57 = .ok (.ishr, 1) := by decide +kernel
theorem d_p17m10_58 : decode prog_17_method_10_code 58 = .ok (.ireturn, 1) := by decide +kernel
abbrev y_AbstractStringBuilder_newCapacity : MethodName := ⟨"java/lang/AbstractStringBuilder", "newCapacity", "(I)I"⟩
theorem ok_AbstractStringBuilder_newCapacity : pd_ok y_AbstractStringBuilder_newCapacity prog_17_method_10_code 6 (some .int) 1 := ⟨mT_429, mT_2, by decide, by decide +kernel⟩
abbrev rm_AbstractStringBuilder_newCapacity : Room := { frames := 2, cells := 0, slots := 0, locals := 44 }
set_option maxHeartbeats 4000000 in
set_option maxRecDepth 100000 in
theorem c_AbstractStringBuilder_newCapacity (l : Launch) (G : pd_G) (h : pd_H) {b v t1 t2 cap n : Nat} {ml : Bool} {f : Nat → Int32} {nd : Nat} (hob : h b = some (t1, .inr (11, [.ref v, .int (nI 0), .int (pd_b ml), .int (nI n)]))) (hov : h v = some (t2, .inl (.byte, cap, .inl f))) (htt : t2 ≠ t1) (hcap : cap ≤ 200) (hnc : n ≤ cap) (hfit : ∀ j, fits .byte (.int (f j)) = true) (hz_b : G.2.1 ≤ b) (hz_v : G.2.1 ≤ v) (hnd : cap < nd) (hnd2 : nd ≤ 100) : pd_M l y_AbstractStringBuilder_newCapacity prog_17_method_10_code 6 (some .int) rm_AbstractStringBuilder_newCapacity G h [.ref b, .int (nI nd)] pd_vn (fun r h1 => r = max nd (cap + (cap + 2)) ∧ h = h1) := by
  refine pd_M.of (by decide) (Nat.le_of_ble_eq_true rfl) ?_
  intro p e s m below meth c X hmn w ls hl
  have hx := X.1
  have hb := X.2.1
  have hl : lv_has ls 6 [(0, .ref b), (1, .int (nI nd))] := hl
  refine lv_aload_n hx hb d_p17m10_0 rfl (lv_at hl 0 rfl) ?_
  refine pd_get X w hob rfl 0 (by decide) mT_58 rfl rfl d_p17m10_1 ?_
  refine pd_alen X w hov d_p17m10_4 ?_
  refine lv_istore_n (lv' := [(2, .int (nI cap)), (0, .ref b), (1, .int (nI nd))]) hx hb d_p17m10_5 rfl hl (by decide) rfl (fun ls hl => ?_)
  refine lv_iload_n hx hb d_p17m10_6 rfl (lv_at hl 2 rfl) ?_
  refine lv_aload_n hx hb d_p17m10_7 rfl (lv_at hl 1 rfl) ?_
  refine pd_get X w hob rfl 1 (by decide) mT_59 rfl rfl d_p17m10_8 ?_
  refine pd_ishl0 hx hb d_p17m10_11 ?_
  refine lv_istore_n (lv' := [(3, .int (nI nd)), (2, .int (nI cap)), (0, .ref b), (1, .int (nI nd))]) hx hb d_p17m10_12 rfl hl (by decide) rfl (fun ls hl => ?_)
  refine lv_iload_n hx hb d_p17m10_13 rfl (lv_at hl 0 rfl) ?_
  refine lv_iload_n hx hb d_p17m10_14 rfl (lv_at hl 1 rfl) ?_
  refine pd_isub hx hb d_p17m10_15 (by omega) ?_
  refine lv_istore (lv' := [(4, .int (nI (nd - cap))), (3, .int (nI nd)), (2, .int (nI cap)), (0, .ref b), (1, .int (nI nd))]) hx hb d_p17m10_16 hl (by decide) rfl (fun ls hl => ?_)
  refine lv_iload_n hx hb d_p17m10_18 rfl (lv_at hl 2 rfl) ?_
  refine lv_iload hx hb d_p17m10_19 (lv_at hl 0 rfl) ?_
  refine lv_iload_n hx hb d_p17m10_21 rfl (lv_at hl 2 rfl) ?_
  refine lv_iconst (v := nI 2) hx hb d_p17m10_22 (by decide) ?_
  refine lv_aload_n hx hb d_p17m10_23 rfl (lv_at hl 3 rfl) ?_
  refine pd_get X w hob rfl 1 (by decide) mT_59 rfl rfl d_p17m10_24 ?_
  refine pd_ishl0 hx hb d_p17m10_27 ?_
  refine pd_iadd hx hb d_p17m10_28 ?_
  refine pd_cS (As := [.int (nI cap), .int (nI (nd - cap)), .int (nI (cap + 2))]) (rest := []) X w (c_ArraysSupport_newLength l G h (by omega) (by omega) (by omega) (by omega)) ok_ArraysSupport_newLength mT_207 mT_430 ⟨by decide, by decide⟩ rfl hl.1 rfl (Nat.le_of_ble_eq_true rfl) d_p17m10_29 ⟨by decide, by decide⟩ (fun r1 h2 H locs hp3 w => ?_)
  refine W.widen (k := 0) (n := 0) (by decide) (by decide) ?_
  obtain ⟨e4, rfl⟩ := hp3
  refine lv_istore (lv' := [(5, .int (nI r1)), (4, .int (nI (nd - cap))), (3, .int (nI nd)), (2, .int (nI cap)), (0, .ref b), (1, .int (nI nd))]) hx hb d_p17m10_32 hl (by decide) rfl (fun ls hl => ?_)
  refine lv_iload hx hb d_p17m10_34 (lv_at hl 0 rfl) ?_
  refine lv_ldc (v := nI 2147483647) hx hb X.2.2.2.2.1 (X.2.2.2.2.2.1 _ mT_431) d_p17m10_36 ?_
  refine pd_jne (tgt := 51) hx hb d_p17m10_38 (by decide) (by omega) (by omega) (fun q5 => ?_) (fun q5 => ?_)
  · -- taken: 51
    refine lv_iload hx hb d_p17m10_51 (lv_at hl 0 rfl) ?_
    refine lv_aload_n hx hb d_p17m10_53 rfl (lv_at hl 4 rfl) ?_
    refine pd_get X w hob rfl 1 (by decide) mT_59 rfl rfl d_p17m10_54 ?_
    refine pd_ishr0 hx hb d_p17m10_57 ?_
    exact pd_nret (v := r1) X w ⟨by omega, rfl⟩ (by decide) (by decide) d_p17m10_58
  · -- not taken: 41
    exfalso
    omega
