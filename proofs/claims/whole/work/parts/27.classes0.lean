/-! the first two classes -/
def pd_c0 : pd_cr := ([], false, none, none, none, 0, [])
def gr_R1 : Nat → pd_cr := pd_fu (fun _ => pd_c0) 0 (gr_row (fun _ => pd_c0) 0 [79, 98, 106, 101, 99, 116] false none none none)
def gr_R2 : Nat → pd_cr := pd_fu gr_R1 1 (gr_row gr_R1 1 [66, 117, 100, 103, 101, 116] false (some 0) none none)
theorem d_p5m1_0 : decode prog_5_method_1_code 0 = .ok (.aload_n 0, 1) := by decide +kernel
theorem d_p5m1_1 : decode prog_5_method_1_code 1 = .ok (.invokespecial 3, 3) := by decide +kernel
theorem d_p5m1_4 : decode prog_5_method_1_code 4 = .ok (.aload_n 0, 1) := by decide +kernel
theorem d_p5m1_5 : decode prog_5_method_1_code 5 = .ok (.new 9, 3) := by decide +kernel
theorem d_p5m1_8 : decode prog_5_method_1_code 8 = .ok (.dup, 1) := by decide +kernel
theorem d_p5m1_9 : decode prog_5_method_1_code 9 = .ok (.iconst 0, 1) := by decide +kernel
theorem d_p5m1_10 : decode prog_5_method_1_code 10 = .ok (.ldc 11, 2) := by decide +kernel
theorem d_p5m1_12 : decode prog_5_method_1_code 12 = .ok (.iconst 0, 1) := by decide +kernel
theorem d_p5m1_13 : decode prog_5_method_1_code 13 = .ok (.aconst_null, 1) := by decide +kernel
theorem d_p5m1_14 : decode prog_5_method_1_code 14 = .ok (.aconst_null, 1) := by decide +kernel
theorem d_p5m1_15 : decode prog_5_method_1_code 15 = .ok (.aconst_null, 1) := by decide +kernel
theorem d_p5m1_16 : decode prog_5_method_1_code 16 = .ok (.invokespecial 13, 3) := by decide +kernel
theorem d_p5m1_19 : decode prog_5_method_1_code 19 = .ok (.putfield 16, 3) := by decide +kernel
theorem d_p5m1_22 : decode prog_5_method_1_code 22 = .ok (.aload_n 0, 1) := by decide +kernel
theorem d_p5m1_23 : decode prog_5_method_1_code 23 = .ok (.new 9, 3) := by decide +kernel
theorem d_p5m1_26 : decode prog_5_method_1_code 26 = .ok (.dup, 1) := by decide +kernel
theorem d_p5m1_27 : decode prog_5_method_1_code 27 = .ok (.iconst 1, 1) := by decide +kernel
theorem d_p5m1_28 : decode prog_5_method_1_code 28 = .ok (.ldc 22, 2) := by decide +kernel
theorem d_p5m1_30 : decode prog_5_method_1_code 30 = .ok (.iconst 0, 1) := by decide +kernel
theorem d_p5m1_31 : decode prog_5_method_1_code 31 = .ok (.aload_n 0, 1) := by decide +kernel
theorem d_p5m1_32 : decode prog_5_method_1_code 32 = .ok (.getfield 16, 3) := by decide +kernel
theorem d_p5m1_35 : decode prog_5_method_1_code 35 = .ok (.aconst_null, 1) := by decide +kernel
theorem d_p5m1_36 : decode prog_5_method_1_code 36 = .ok (.aconst_null, 1) := by decide +kernel
theorem d_p5m1_37 : decode prog_5_method_1_code 37 = .ok (.invokespecial 13, 3) := by decide +kernel
theorem d_p5m1_40 : decode prog_5_method_1_code 40 = .ok (.putfield 24, 3) := by decide +kernel
theorem d_p5m1_43 : decode prog_5_method_1_code 43 = .ok (.aload_n 0, 1) := by decide +kernel
theorem d_p5m1_44 : decode prog_5_method_1_code 44 = .ok (.bipush 14, 2) := by decide +kernel
theorem d_p5m1_46 : decode prog_5_method_1_code 46 = .ok (.anewarray 9, 3) := by decide +kernel
theorem d_p5m1_49 : decode prog_5_method_1_code 49 = .ok (.putfield 27, 3) := by decide +kernel
theorem d_p5m1_52 : decode prog_5_method_1_code 52 = .ok (.aload_n 0, 1) := by decide +kernel
theorem d_p5m1_53 : decode prog_5_method_1_code 53 = .ok (.getfield 27, 3) := by decide +kernel
theorem d_p5m1_56 : decode prog_5_method_1_code 56 = .ok (.iconst 0, 1) := by decide +kernel
theorem d_p5m1_57 : decode prog_5_method_1_code 57 = .ok (.aload_n 0, 1) := by decide +kernel
theorem d_p5m1_58 : decode prog_5_method_1_code 58 = .ok (.getfield 16, 3) := by decide +kernel
theorem d_p5m1_61 : decode prog_5_method_1_code 61 = .ok (.aastore, 1) := by decide +kernel
theorem d_p5m1_62 : decode prog_5_method_1_code 62 = .ok (.aload_n 0, 1) := by decide +kernel
theorem d_p5m1_63 : decode prog_5_method_1_code 63 = .ok (.getfield 27, 3) := by decide +kernel
theorem d_p5m1_66 : decode prog_5_method_1_code 66 = .ok (.iconst 1, 1) := by decide +kernel
theorem d_p5m1_67 : decode prog_5_method_1_code 67 = .ok (.aload_n 0, 1) := by decide +kernel
theorem d_p5m1_68 : decode prog_5_method_1_code 68 = .ok (.getfield 24, 3) := by decide +kernel
theorem d_p5m1_71 : decode prog_5_method_1_code 71 = .ok (.aastore, 1) := by decide +kernel
theorem d_p5m1_72 : decode prog_5_method_1_code 72 = .ok (.aload_n 0, 1) := by decide +kernel
theorem d_p5m1_73 : decode prog_5_method_1_code 73 = .ok (.iconst 2, 1) := by decide +kernel
theorem d_p5m1_74 : decode prog_5_method_1_code 74 = .ok (.putfield 31, 3) := by decide +kernel
theorem d_p5m1_77 : decode prog_5_method_1_code 77 = .ok (.return_, 1) := by decide +kernel
abbrev y_Classes_init : MethodName := ⟨"PolicyDesk$Classes", "<init>", "()V"⟩
theorem ok_Classes_init : pd_ok y_Classes_init prog_5_method_1_code 1 none 0 := ⟨mT_77, mT_6, by decide, by decide +kernel⟩
abbrev rm_Classes_init : Room := { frames := 11, cells := 61, slots := 878, locals := 263 }
set_option maxHeartbeats 4000000 in
set_option maxRecDepth 100000 in
theorem c_Classes_init (l : Launch) (G : pd_G) (h : pd_H) {x : Nat} (hx0 : h x = some (6, .inr (3, [.null, .null, .null, .int (nI 0)]))) (hz_x : G.2.1 ≤ x) : pd_Mv l y_Classes_init prog_5_method_1_code 1 rm_Classes_init G h [.ref x] (fun h1 => pd_kx [6, 7, 8, 9, 10] h h1 ∧ ∃ A, pd_Cls G h1 x A 2 gr_R2) := by
  refine pd_Mv.of (by decide) (Nat.le_of_ble_eq_true rfl) ?_
  intro p e s m below meth c X hmn w ls hl
  have hx := X.1
  have hb := X.2.1
  have hl : lv_has ls 1 [(0, .ref x)] := hl
  refine lv_aload_n hx hb d_p5m1_0 rfl (lv_at hl 0 rfl) ?_
  refine W.objInit hx hb X.2.2.2.2.1 (X.2.2.2.2.2.1 _ mT_78) (X.2.2.2.2.2.1 _ mT_38) (X.2.2.2.2.2.1 _ mT_39) rfl (by rw [X.2.2.2.1]; exact hl.1) rfl d_p5m1_1 (by decide) (Nat.le_of_ble_eq_true rfl) ?_
  refine W.eq (g2 := F0 m 4 ls []) rfl ?_
  refine lv_aload_n hx hb d_p5m1_4 rfl (lv_at hl 0 rfl) ?_
  have f1 : pd_Rows G h (fun _ => 0) 0 (fun _ => pd_c0) := ⟨fun i hi => absurd hi (Nat.not_lt_zero i), fun i j hi _ _ => absurd hi (Nat.not_lt_zero i), Nat.zero_le _, fun i hi => absurd hi (Nat.not_lt_zero i)⟩
  refine pd_new (ci := 2) (C := "PolicyDesk$ClassRow") (T := pd_F2) (N := 9) (fs := [.int (nI 0), .null, .int (nI 0), .null, .null, .null, .null, .int (nI 0), .int (nI 0)]) 9 X w rfl mT_79 mT_80 mT_7 (pd_hfs (by decide +kernel)) (by decide) (by decide) d_p5m1_5 (fun q2 H hq3 hz4 w => ?_)
  refine W.widen (k := 1) (n := 9) (by decide) (by decide) ?_
  obtain ⟨h5, u8⟩ : ∃ z, z = pd_up h q2 (9, .inr (2, [.int (nI 0), .null, .int (nI 0), .null, .null, .null, .null, .int (nI 0), .int (nI 0)])) := ⟨_, rfl⟩
  rw [← u8] at w
  have k6 : pd_kx [] h h5 := by rw [u8]; exact pd_new_kx hq3
  have f7 : h5 q2 = some (9, .inr (2, [.int (nI 0), .null, .int (nI 0), .null, .null, .null, .null, .int (nI 0), .int (nI 0)])) := by rw [u8]; exact pd_up_s _ _ _
  have f9 := k6 _ _ hx0 List.not_mem_nil
  have f10 := f1.kx k6 List.not_mem_nil
  refine lv_dup hx hb d_p5m1_8 rfl ?_
  refine lv_iconst (v := nI 0) hx hb d_p5m1_9 (by decide) ?_
  refine pd_ldc X (List.mem_of_getElem? (i := 0) rfl) d_p5m1_10 ?_
  have L11 : pd_Str h5 (G.2.2.2 40) [79, 98, 106, 101, 99, 116] := pd_litS X w 0 (by decide)
  obtain ⟨v12, g13, f14, f15, gf16, gc17, gl18⟩ := id L11
  refine lv_iconst (v := nI 0) hx hb d_p5m1_12 (by decide) ?_
  refine lv_null hx hb d_p5m1_13 ?_
  refine lv_null hx hb d_p5m1_14 ?_
  refine lv_null hx hb d_p5m1_15 ?_
  refine pd_cI (a := q2) (As := [.int (nI 0), .ref (G.2.2.2 40), .int (nI 0), .null, .null, .null]) (rest := [.ref q2, .ref x]) X w (c_ClassRow_init l G h5 (A := fun _ => 0) (n := 0) (R := fun _ => pd_c0) (bi := false) (ab := none) (fi := none) (se := none) (by assumption) (by assumption) (by assumption) (by assumption) (fun k hk => by cases hk) (fun k hk => by cases hk) (fun k hk => by cases hk) (by decide)) ok_ClassRow_init rfl mT_83 mT_82 ⟨by decide, by decide⟩ rfl hl.1 rfl (Nat.le_of_ble_eq_true rfl) d_p5m1_16 ⟨by decide, by decide⟩ (fun h20 H locs hp21 w => ?_)
  refine W.widen (k := 30) (n := 432) (by decide) (by decide) ?_
  obtain ⟨k22, f23⟩ := hp21
  have f24 := k22 _ _ f9 (show (6 : Nat) ∉ [7, 8, 9] by decide)
  have f25 := k22 _ _ f14 (show (0 : Nat) ∉ [7, 8, 9] by decide)
  have f26 := k22 _ _ f15 (show (0 : Nat) ∉ [7, 8, 9] by decide)
  have f27 := f10.kx k22 (show (0 : Nat) ∉ [7, 8, 9] by decide)
  have f28 := L11.kx k22 (show (0 : Nat) ∉ [7, 8, 9] by decide)
  obtain ⟨h29, w, k30, f31⟩ := pd_Row.tag w X.2.2.2.2.2.2.2.2.2.1 hz4 f23
  have f32 := k30 _ _ f24 (show (6 : Nat) ∉ [9] by decide)
  have f33 := k30 _ _ f25 (show (0 : Nat) ∉ [9] by decide)
  have f34 := k30 _ _ f26 (show (0 : Nat) ∉ [9] by decide)
  have f35 := f27.kx k30 (show (0 : Nat) ∉ [9] by decide)
  have f36 := f28.kx k30 (show (0 : Nat) ∉ [9] by decide)
  have f37 : pd_Rows G h29 (pd_fu (fun _ => 0) 0 q2) 1 gr_R1 := pd_Rows.ext f35 (by decide) f31 (fun i hi => absurd hi (Nat.not_lt_zero i)) (fun k hk => by cases hk) (fun k hk => by cases hk) (fun k hk => by cases hk) (gr_fc_lt (o1 := none) (o2 := none) f35.2.2 (fun k hk => by cases hk) (fun k hk => by cases hk)) (gr_fc_nd (R := fun _ => pd_c0) (o1 := none) (o2 := none))
  refine pd_putF (ty := (.object "PolicyDesk$ClassRow")) X w f32 hz_x rfl 0 (by decide) mT_294 rfl rfl hmn rfl (by decide +kernel) rfl rfl (Nat.le_of_ble_eq_true rfl) d_p5m1_19 (fun H locs w => ?_)
  have w : pd_w G s H locs (pd_up h29 x (6, .inr (3, [.ref q2, .null, .null, .int (nI 0)]))) := w
  obtain ⟨h38, u41⟩ : ∃ z, z = pd_up h29 x (6, .inr (3, [.ref q2, .null, .null, .int (nI 0)])) := ⟨_, rfl⟩
  rw [← u41] at w
  have k39 : pd_kq x h29 h38 := by rw [u41]; exact pd_up_kq
  have f40 : h38 x = some (6, .inr (3, [.ref q2, .null, .null, .int (nI 0)])) := by rw [u41]; exact pd_up_s _ _ _
  have f42 := k39 _ _ (pd_ne f33 f32 (by simp)) f33
  have f43 := k39 _ _ (pd_ne f34 f32 (by simp)) f34
  have f44 : pd_Str h38 (G.2.2.2 40) ([79, 98, 106, 101, 99, 116]) := ⟨_, _, f42, f43, gf16, gc17, gl18⟩
  have f45 := f31.kx (pd_kq.kx k39 f32) (show (0 : Nat) ∉ [6] by decide) (show (0 : Nat) ∉ [6] by decide)
  have f46 := f37.kx (pd_kq.kx k39 f32) (show (0 : Nat) ∉ [6] by decide)
  refine lv_aload_n hx hb d_p5m1_22 rfl (lv_at hl 0 rfl) ?_
  refine pd_new (ci := 2) (C := "PolicyDesk$ClassRow") (T := pd_F2) (N := 9) (fs := [.int (nI 0), .null, .int (nI 0), .null, .null, .null, .null, .int (nI 0), .int (nI 0)]) 9 X w rfl mT_79 mT_80 mT_7 (pd_hfs (by decide +kernel)) (by decide) (by decide) d_p5m1_23 (fun q47 H hq48 hz49 w => ?_)
  refine W.widen (k := 31) (n := 441) (by decide) (by decide) ?_
  obtain ⟨h50, u53⟩ : ∃ z, z = pd_up h38 q47 (9, .inr (2, [.int (nI 0), .null, .int (nI 0), .null, .null, .null, .null, .int (nI 0), .int (nI 0)])) := ⟨_, rfl⟩
  rw [← u53] at w
  have k51 : pd_kx [] h38 h50 := by rw [u53]; exact pd_new_kx hq48
  have f52 : h50 q47 = some (9, .inr (2, [.int (nI 0), .null, .int (nI 0), .null, .null, .null, .null, .int (nI 0), .int (nI 0)])) := by rw [u53]; exact pd_up_s _ _ _
  have f54 := k51 _ _ f42 List.not_mem_nil
  have f55 := k51 _ _ f40 List.not_mem_nil
  have f56 := k51 _ _ f43 List.not_mem_nil
  have f57 := f44.kx k51 List.not_mem_nil
  have f58 := f45.kx k51 List.not_mem_nil List.not_mem_nil
  have f59 := f46.kx k51 List.not_mem_nil
  refine lv_dup hx hb d_p5m1_26 rfl ?_
  refine lv_iconst (v := nI 1) hx hb d_p5m1_27 (by decide) ?_
  refine pd_ldc X (List.mem_of_getElem? (i := 1) rfl) d_p5m1_28 ?_
  have L60 : pd_Str h50 (G.2.2.2 41) [66, 117, 100, 103, 101, 116] := pd_litS X w 1 (by decide)
  obtain ⟨v61, g62, f63, f64, gf65, gc66, gl67⟩ := id L60
  refine lv_iconst (v := nI 0) hx hb d_p5m1_30 (by decide) ?_
  refine lv_aload_n hx hb d_p5m1_31 rfl (lv_at hl 0 rfl) ?_
  refine pd_get X w f55 rfl 0 (by decide) mT_294 rfl rfl d_p5m1_32 ?_
  refine lv_null hx hb d_p5m1_35 ?_
  refine lv_null hx hb d_p5m1_36 ?_
  refine pd_cI (a := q47) (As := [.int (nI 1), .ref (G.2.2.2 41), .int (nI 0), .ref q2, .null, .null]) (rest := [.ref q47, .ref x]) X w (c_ClassRow_init l G h50 (A := pd_fu (fun _ => 0) 0 q2) (n := 1) (R := gr_R1) (bi := false) (ab := some 0) (fi := none) (se := none) (by assumption) (by assumption) (by assumption) (by assumption) (fun k hk => by cases hk; decide) (fun k hk => by cases hk) (fun k hk => by cases hk) (by decide)) ok_ClassRow_init rfl mT_83 mT_82 ⟨by decide, by decide⟩ rfl hl.1 rfl (Nat.le_of_ble_eq_true rfl) d_p5m1_37 ⟨by decide, by decide⟩ (fun h69 H locs hp70 w => ?_)
  refine W.widen (k := 60) (n := 864) (by decide) (by decide) ?_
  obtain ⟨k71, f72⟩ := hp70
  have f73 := k71 _ _ f54 (show (0 : Nat) ∉ [7, 8, 9] by decide)
  have f74 := k71 _ _ f55 (show (6 : Nat) ∉ [7, 8, 9] by decide)
  have f75 := k71 _ _ f63 (show (0 : Nat) ∉ [7, 8, 9] by decide)
  have f76 := k71 _ _ f56 (show (0 : Nat) ∉ [7, 8, 9] by decide)
  have f77 := k71 _ _ f64 (show (0 : Nat) ∉ [7, 8, 9] by decide)
  have f78 := f57.kx k71 (show (0 : Nat) ∉ [7, 8, 9] by decide)
  have f79 := f58.kx k71 (show (0 : Nat) ∉ [7, 8, 9] by decide) (show (0 : Nat) ∉ [7, 8, 9] by decide)
  have f80 := f59.kx k71 (show (0 : Nat) ∉ [7, 8, 9] by decide)
  have f81 := L60.kx k71 (show (0 : Nat) ∉ [7, 8, 9] by decide)
  obtain ⟨h82, w, k83, f84⟩ := pd_Row.tag w X.2.2.2.2.2.2.2.2.2.1 hz49 f72
  have f85 := k83 _ _ f73 (show (0 : Nat) ∉ [9] by decide)
  have f86 := k83 _ _ f74 (show (6 : Nat) ∉ [9] by decide)
  have f87 := k83 _ _ f75 (show (0 : Nat) ∉ [9] by decide)
  have f88 := k83 _ _ f76 (show (0 : Nat) ∉ [9] by decide)
  have f89 := k83 _ _ f77 (show (0 : Nat) ∉ [9] by decide)
  have f90 := f78.kx k83 (show (0 : Nat) ∉ [9] by decide)
  have f91 := f79.kx k83 (show (0 : Nat) ∉ [9] by decide) (show (0 : Nat) ∉ [9] by decide)
  have f92 := f80.kx k83 (show (0 : Nat) ∉ [9] by decide)
  have f93 := f81.kx k83 (show (0 : Nat) ∉ [9] by decide)
  have f94 : pd_Rows G h82 (pd_fu (pd_fu (fun _ => 0) 0 q2) 1 q47) 2 gr_R2 := pd_Rows.ext f92 (by decide) f84 (fun i hi e9 => by obtain ⟨_, _, z, _⟩ := f46.1 i hi; rw [e9, hq48] at z; cases z) (fun k hk => by cases hk; decide) (fun k hk => by cases hk) (fun k hk => by cases hk) (gr_fc_lt (o1 := none) (o2 := none) f92.2.2 (fun k hk => by cases hk) (fun k hk => by cases hk)) (gr_fc_nd (R := gr_R1) (o1 := none) (o2 := none))
  refine pd_putF (ty := (.object "PolicyDesk$ClassRow")) X w f86 hz_x rfl 1 (by decide) mT_296 rfl rfl hmn rfl (by decide +kernel) rfl rfl (Nat.le_of_ble_eq_true rfl) d_p5m1_40 (fun H locs w => ?_)
  have w : pd_w G s H locs (pd_up h82 x (6, .inr (3, [.ref q2, .ref q47, .null, .int (nI 0)]))) := w
  obtain ⟨h95, u98⟩ : ∃ z, z = pd_up h82 x (6, .inr (3, [.ref q2, .ref q47, .null, .int (nI 0)])) := ⟨_, rfl⟩
  rw [← u98] at w
  have k96 : pd_kq x h82 h95 := by rw [u98]; exact pd_up_kq
  have f97 : h95 x = some (6, .inr (3, [.ref q2, .ref q47, .null, .int (nI 0)])) := by rw [u98]; exact pd_up_s _ _ _
  have f99 := k96 _ _ (pd_ne f85 f86 (by simp)) f85
  have f100 := k96 _ _ (pd_ne f87 f86 (by simp)) f87
  have f101 := k96 _ _ (pd_ne f88 f86 (by simp)) f88
  have f102 := k96 _ _ (pd_ne f89 f86 (by simp)) f89
  have f103 : pd_Str h95 (G.2.2.2 40) ([79, 98, 106, 101, 99, 116]) := ⟨_, _, f99, f101, gf16, gc17, gl18⟩
  have f104 := f91.kx (pd_kq.kx k96 f86) (show (0 : Nat) ∉ [6] by decide) (show (0 : Nat) ∉ [6] by decide)
  have f105 : pd_Str h95 (G.2.2.2 41) ([66, 117, 100, 103, 101, 116]) := ⟨_, _, f100, f102, gf65, gc66, gl67⟩
  have f106 := f84.kx (pd_kq.kx k96 f86) (show (0 : Nat) ∉ [6] by decide) (show (0 : Nat) ∉ [6] by decide)
  have f107 := f94.kx (pd_kq.kx k96 f86) (show (0 : Nat) ∉ [6] by decide)
  refine lv_aload_n hx hb d_p5m1_43 rfl (lv_at hl 0 rfl) ?_
  refine lv_bipush (v := nI 14) hx hb d_p5m1_44 (by decide) ?_
  refine pd_newq (E := "PolicyDesk$ClassRow") 10 X w mT_79 mT_293 (by omega) (by decide) (Nat.le_trans (Nat.add_le_add_left (by omega : 14 ≤ 14) _) (by decide)) d_p5m1_46 (fun q108 H hq109 hz110 w => ?_)
  refine W.widen (k := 61) (n := 878) (by decide) (by omega) ?_
  obtain ⟨h111, u114⟩ : ∃ z, z = pd_up h95 q108 (10, .inl ((.object "PolicyDesk$ClassRow"), 14, .inr (.inr (.inr (.inr (fun _ => none)))))) := ⟨_, rfl⟩
  rw [← u114] at w
  have k112 : pd_kx [] h95 h111 := by rw [u114]; exact pd_new_kx hq109
  have f113 : h111 q108 = some (10, .inl ((.object "PolicyDesk$ClassRow"), 14, .inr (.inr (.inr (.inr (fun _ => none)))))) := by rw [u114]; exact pd_up_s _ _ _
  have f115 := k112 _ _ f99 List.not_mem_nil
  have f116 := k112 _ _ f100 List.not_mem_nil
  have f117 := k112 _ _ f97 List.not_mem_nil
  have f118 := k112 _ _ f101 List.not_mem_nil
  have f119 := k112 _ _ f102 List.not_mem_nil
  have f120 := f103.kx k112 List.not_mem_nil
  have f121 := f104.kx k112 List.not_mem_nil List.not_mem_nil
  have f122 := f105.kx k112 List.not_mem_nil
  have f123 := f106.kx k112 List.not_mem_nil List.not_mem_nil
  have f124 := f107.kx k112 List.not_mem_nil
  refine pd_putF (ty := (.array (.object "PolicyDesk$ClassRow"))) X w f117 hz_x rfl 2 (by decide) mT_297 rfl rfl hmn rfl (by decide +kernel) rfl rfl (Nat.le_of_ble_eq_true rfl) d_p5m1_49 (fun H locs w => ?_)
  have w : pd_w G s H locs (pd_up h111 x (6, .inr (3, [.ref q2, .ref q47, .ref q108, .int (nI 0)]))) := w
  obtain ⟨h125, u128⟩ : ∃ z, z = pd_up h111 x (6, .inr (3, [.ref q2, .ref q47, .ref q108, .int (nI 0)])) := ⟨_, rfl⟩
  rw [← u128] at w
  have k126 : pd_kq x h111 h125 := by rw [u128]; exact pd_up_kq
  have f127 : h125 x = some (6, .inr (3, [.ref q2, .ref q47, .ref q108, .int (nI 0)])) := by rw [u128]; exact pd_up_s _ _ _
  have f129 := k126 _ _ (pd_ne f115 f117 (by simp)) f115
  have f130 := k126 _ _ (pd_ne f116 f117 (by simp)) f116
  have f131 := k126 _ _ (pd_ne f118 f117 (by simp)) f118
  have f132 := k126 _ _ (pd_ne f119 f117 (by simp)) f119
  have f133 := k126 _ _ (pd_ne f113 f117 (by simp)) f113
  have f134 : pd_Str h125 (G.2.2.2 40) ([79, 98, 106, 101, 99, 116]) := ⟨_, _, f129, f131, gf16, gc17, gl18⟩
  have f135 := f121.kx (pd_kq.kx k126 f117) (show (0 : Nat) ∉ [6] by decide) (show (0 : Nat) ∉ [6] by decide)
  have f136 : pd_Str h125 (G.2.2.2 41) ([66, 117, 100, 103, 101, 116]) := ⟨_, _, f130, f132, gf65, gc66, gl67⟩
  have f137 := f123.kx (pd_kq.kx k126 f117) (show (0 : Nat) ∉ [6] by decide) (show (0 : Nat) ∉ [6] by decide)
  have f138 := f124.kx (pd_kq.kx k126 f117) (show (0 : Nat) ∉ [6] by decide)
  refine lv_aload_n hx hb d_p5m1_52 rfl (lv_at hl 0 rfl) ?_
  refine pd_get X w f127 rfl 2 (by decide) mT_297 rfl rfl d_p5m1_53 ?_
  refine lv_iconst (v := nI 0) hx hb d_p5m1_56 (by decide) ?_
  refine lv_aload_n hx hb d_p5m1_57 rfl (lv_at hl 0 rfl) ?_
  refine pd_get X w f127 rfl 0 (by decide) mT_294 rfl rfl d_p5m1_58 ?_
  obtain ⟨nm139, fx140, f141, f142, f143⟩ := id f135
  refine pd_aast X w f133 hz110 f141 rfl (Or.inl rfl) (by omega) (by omega) d_p5m1_61 (fun H locs w => ?_)
  have w : pd_w G s H locs (pd_up h125 q108 (10, .inl ((.object "PolicyDesk$ClassRow"), 14, .inr (.inr (.inr (.inr (va_up (fun _ => none) 0 (some q2)))))))) := w
  obtain ⟨h144, u147⟩ : ∃ z, z = pd_up h125 q108 (10, .inl ((.object "PolicyDesk$ClassRow"), 14, .inr (.inr (.inr (.inr (va_up (fun _ => none) 0 (some q2))))))) := ⟨_, rfl⟩
  rw [← u147] at w
  have k145 : pd_kq q108 h125 h144 := by rw [u147]; exact pd_up_kq
  have f146 : h144 q108 = some (10, .inl ((.object "PolicyDesk$ClassRow"), 14, .inr (.inr (.inr (.inr (va_up (fun _ => none) 0 (some q2))))))) := by rw [u147]; exact pd_up_s _ _ _
  have f148 := k145 _ _ (pd_nn f99 hq109) f129
  have f149 := k145 _ _ (pd_nn f100 hq109) f130
  have f150 := k145 _ _ (pd_nn f97 hq109) f127
  have f151 := k145 _ _ (pd_ne f141 f133 (by simp)) f141
  have f152 := k145 _ _ (pd_nn f101 hq109) f131
  have f153 := k145 _ _ (pd_nn f102 hq109) f132
  have f154 : pd_Str h144 (G.2.2.2 40) ([79, 98, 106, 101, 99, 116]) := ⟨_, _, f148, f152, gf16, gc17, gl18⟩
  have f155 := f135.kx (pd_kq.kx k145 f133) (show (0 : Nat) ∉ [10] by decide) (show (0 : Nat) ∉ [10] by decide)
  have f156 : pd_Str h144 (G.2.2.2 41) ([66, 117, 100, 103, 101, 116]) := ⟨_, _, f149, f153, gf65, gc66, gl67⟩
  have f157 := f137.kx (pd_kq.kx k145 f133) (show (0 : Nat) ∉ [10] by decide) (show (0 : Nat) ∉ [10] by decide)
  have f158 := f138.kx (pd_kq.kx k145 f133) (show (0 : Nat) ∉ [10] by decide)
  refine lv_aload_n hx hb d_p5m1_62 rfl (lv_at hl 0 rfl) ?_
  refine pd_get X w f150 rfl 2 (by decide) mT_297 rfl rfl d_p5m1_63 ?_
  refine lv_iconst (v := nI 1) hx hb d_p5m1_66 (by decide) ?_
  refine lv_aload_n hx hb d_p5m1_67 rfl (lv_at hl 0 rfl) ?_
  refine pd_get X w f150 rfl 1 (by decide) mT_296 rfl rfl d_p5m1_68 ?_
  obtain ⟨nm159, fx160, f161, f162, f163⟩ := id f157
  refine pd_aast X w f146 hz110 f161 rfl (Or.inl rfl) (by omega) (by omega) d_p5m1_71 (fun H locs w => ?_)
  have w : pd_w G s H locs (pd_up h144 q108 (10, .inl ((.object "PolicyDesk$ClassRow"), 14, .inr (.inr (.inr (.inr (va_up (va_up (fun _ => none) 0 (some q2)) 1 (some q47)))))))) := w
  obtain ⟨h164, u167⟩ : ∃ z, z = pd_up h144 q108 (10, .inl ((.object "PolicyDesk$ClassRow"), 14, .inr (.inr (.inr (.inr (va_up (va_up (fun _ => none) 0 (some q2)) 1 (some q47))))))) := ⟨_, rfl⟩
  rw [← u167] at w
  have k165 : pd_kq q108 h144 h164 := by rw [u167]; exact pd_up_kq
  have f166 : h164 q108 = some (10, .inl ((.object "PolicyDesk$ClassRow"), 14, .inr (.inr (.inr (.inr (va_up (va_up (fun _ => none) 0 (some q2)) 1 (some q47))))))) := by rw [u167]; exact pd_up_s _ _ _
  have f168 := k165 _ _ (pd_nn f99 hq109) f148
  have f169 := k165 _ _ (pd_nn f100 hq109) f149
  have f170 := k165 _ _ (pd_nn f97 hq109) f150
  have f171 := k165 _ _ (pd_ne f151 f146 (by simp)) f151
  have f172 := k165 _ _ (pd_ne f161 f146 (by simp)) f161
  have f173 := k165 _ _ (pd_nn f101 hq109) f152
  have f174 := k165 _ _ (pd_nn f102 hq109) f153
  have f175 : pd_Str h164 (G.2.2.2 40) ([79, 98, 106, 101, 99, 116]) := ⟨_, _, f168, f173, gf16, gc17, gl18⟩
  have f176 := f155.kx (pd_kq.kx k165 f146) (show (0 : Nat) ∉ [10] by decide) (show (0 : Nat) ∉ [10] by decide)
  have f177 : pd_Str h164 (G.2.2.2 41) ([66, 117, 100, 103, 101, 116]) := ⟨_, _, f169, f174, gf65, gc66, gl67⟩
  have f178 := f157.kx (pd_kq.kx k165 f146) (show (0 : Nat) ∉ [10] by decide) (show (0 : Nat) ∉ [10] by decide)
  have f179 := f158.kx (pd_kq.kx k165 f146) (show (0 : Nat) ∉ [10] by decide)
  refine lv_aload_n hx hb d_p5m1_72 rfl (lv_at hl 0 rfl) ?_
  refine lv_iconst (v := nI 2) hx hb d_p5m1_73 (by decide) ?_
  refine pd_put (ty := .int) X w f170 hz_x rfl 3 (by decide) mT_298 rfl rfl (by decide +kernel) rfl rfl (Nat.le_of_ble_eq_true rfl) d_p5m1_74 (fun H locs w => ?_)
  have w : pd_w G s H locs (pd_up h164 x (6, .inr (3, [.ref q2, .ref q47, .ref q108, .int (nI 2)]))) := w
  obtain ⟨h180, u183⟩ : ∃ z, z = pd_up h164 x (6, .inr (3, [.ref q2, .ref q47, .ref q108, .int (nI 2)])) := ⟨_, rfl⟩
  rw [← u183] at w
  have k181 : pd_kq x h164 h180 := by rw [u183]; exact pd_up_kq
  have f182 : h180 x = some (6, .inr (3, [.ref q2, .ref q47, .ref q108, .int (nI 2)])) := by rw [u183]; exact pd_up_s _ _ _
  have f184 := k181 _ _ (pd_ne f168 f170 (by simp)) f168
  have f185 := k181 _ _ (pd_ne f169 f170 (by simp)) f169
  have f186 := k181 _ _ (pd_ne f171 f170 (by simp)) f171
  have f187 := k181 _ _ (pd_ne f172 f170 (by simp)) f172
  have f188 := k181 _ _ (pd_ne f173 f170 (by simp)) f173
  have f189 := k181 _ _ (pd_ne f174 f170 (by simp)) f174
  have f190 := k181 _ _ (pd_ne f166 f170 (by simp)) f166
  have f191 : pd_Str h180 (G.2.2.2 40) ([79, 98, 106, 101, 99, 116]) := ⟨_, _, f184, f188, gf16, gc17, gl18⟩
  have f192 := f176.kx (pd_kq.kx k181 f170) (show (0 : Nat) ∉ [6] by decide) (show (0 : Nat) ∉ [6] by decide)
  have f193 : pd_Str h180 (G.2.2.2 41) ([66, 117, 100, 103, 101, 116]) := ⟨_, _, f185, f189, gf65, gc66, gl67⟩
  have f194 := f178.kx (pd_kq.kx k181 f170) (show (0 : Nat) ∉ [6] by decide) (show (0 : Nat) ∉ [6] by decide)
  have f195 := f179.kx (pd_kq.kx k181 f170) (show (0 : Nat) ∉ [6] by decide)
  have kt196 : pd_kx [7, 8, 9, 6] h h180 := by
    intro ya c9 ys0 n9
    have ys1 := k6 ya c9 ys0 List.not_mem_nil
    have ys2 := k22 ya c9 ys1 (fun z9 => n9 ((show ∀ t ∈ [7, 8, 9], t ∈ [7, 8, 9, 6] by simp) _ z9))
    have ys3 := k30 ya c9 ys2 (fun z9 => n9 ((show ∀ t ∈ [9], t ∈ [7, 8, 9, 6] by simp) _ z9))
    have ys4 := k39 ya c9 (pd_ne ys3 f32 (fun z9 => n9 (by rw [z9]; simp))) ys3
    have ys5 := k51 ya c9 ys4 List.not_mem_nil
    have ys6 := k71 ya c9 ys5 (fun z9 => n9 ((show ∀ t ∈ [7, 8, 9], t ∈ [7, 8, 9, 6] by simp) _ z9))
    have ys7 := k83 ya c9 ys6 (fun z9 => n9 ((show ∀ t ∈ [9], t ∈ [7, 8, 9, 6] by simp) _ z9))
    have ys8 := k96 ya c9 (pd_ne ys7 f86 (fun z9 => n9 (by rw [z9]; simp))) ys7
    have ys9 := k112 ya c9 ys8 List.not_mem_nil
    have ys10 := k126 ya c9 (pd_ne ys9 f117 (fun z9 => n9 (by rw [z9]; simp))) ys9
    have ys11 := k145 ya c9 (pd_nn ys8 hq109) ys10
    have ys12 := k165 ya c9 (pd_nn ys8 hq109) ys11
    have ys13 := k181 ya c9 (pd_ne ys12 f170 (fun z9 => n9 (by rw [z9]; simp))) ys12
    exact ys13
  exact pd_vret X w ⟨pd_kx.mono (us := [6, 7, 8, 9, 10]) (kt196) (by simp), pd_fu (pd_fu (fun _ => 0) 0 q2) 1 q47, _, _, f182, f190, (fun i hi => by rcases (show i = 0 ∨ i = 1 by omega) with e9 | e9 <;> subst e9 <;> rfl), hz_x, hz110, Nat.le_refl _, f195⟩ (by decide) (by decide) d_p5m1_77
