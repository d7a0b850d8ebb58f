theorem d_p32m131_0 : decode prog_32_method_131_code 0 = .ok (.iload_n 1, 1) := by decide +kernel
theorem d_p32m131_1 : decode prog_32_method_131_code 1 = .ok (.iload_n 0, 1) := by decide +kernel
theorem d_p32m131_2 : decode prog_32_method_131_code 2 = .ok (.if_icmp .ge 35, 3) := by decide +kernel
theorem d_p32m131_5 : decode prog_32_method_131_code 5 = .ok (.new 43, 3) := by decide +kernel
theorem d_p32m131_8 : decode prog_32_method_131_code 8 = .ok (.dup, 1) := by decide +kernel
theorem d_p32m131_9 : decode prog_32_method_131_code 9 = .ok (.new 45, 3) := by decide +kernel
theorem d_p32m131_12 : decode prog_32_method_131_code 12 = .ok (.dup, 1) := by decide +kernel
theorem d_p32m131_13 : decode prog_32_method_131_code 13 = .ok (.invokespecial 47, 3) := by decide +kernel
theorem d_p32m131_16 : decode prog_32_method_131_code 16 = .ok (.iload_n 0, 1) := by decide +kernel
theorem d_p32m131_17 : decode prog_32_method_131_code 17 = .ok (.invokevirtual 54, 3) := by decide +kernel
theorem d_p32m131_20 : decode prog_32_method_131_code 20 = .ok (.ldc_w 337, 3) := by decide +kernel
theorem d_p32m131_23 : decode prog_32_method_131_code 23 = .ok (.invokevirtual 50, 3) := by decide +kernel
theorem d_p32m131_26 : decode prog_32_method_131_code 26 = .ok (.iload_n 1, 1) := by decide +kernel
theorem d_p32m131_27 : decode prog_32_method_131_code 27 = .ok (.invokevirtual 54, 3) := by decide +kernel
theorem d_p32m131_30 : decode prog_32_method_131_code 30 = .ok (.invokevirtual 61, 3) := by decide +kernel
theorem d_p32m131_33 : decode prog_32_method_131_code 33 = .ok (.invokespecial 65, 3) := by decide +kernel
theorem d_p32m131_36 : decode prog_32_method_131_code 36 = .ok (.athrow, 1) := by decide +kernel
theorem d_p32m131_37 : decode prog_32_method_131_code 37 = .ok (.return_, 1) := by decide +kernel
abbrev y_Arrays_checkLength : MethodName := ⟨"java/util/Arrays", "checkLength", "(II)V"⟩
theorem ok_Arrays_checkLength : pd_ok y_Arrays_checkLength prog_32_method_131_code 2 none 2 := ⟨mT_509, mT_16, by decide, by decide +kernel⟩
abbrev rm_Arrays_checkLength : Room := { frames := 0, cells := 0, slots := 0, locals := 0 }
set_option maxHeartbeats 4000000 in
set_option maxRecDepth 100000 in
theorem c_Arrays_checkLength (l : Launch) (G : pd_G) (h : pd_H) {x y : Nat} (hxy : x ≤ y) (hy1 : y < 2 ^ 31) : pd_Mv l y_Arrays_checkLength prog_32_method_131_code 2 rm_Arrays_checkLength G h [.int (nI x), .int (nI y)] (fun h1 => h = h1) := by
  refine pd_Mv.of (by decide) (Nat.le_of_ble_eq_true rfl) ?_
  intro p e s m below meth c X hmn w ls hl
  have hx := X.1
  have hb := X.2.1
  have hl : lv_has ls 2 [(0, .int (nI x)), (1, .int (nI y))] := hl
  refine lv_iload_n hx hb d_p32m131_0 rfl (lv_at hl 1 rfl) ?_
  refine lv_iload_n hx hb d_p32m131_1 rfl (lv_at hl 0 rfl) ?_
  refine pd_jge (tgt := 37) hx hb d_p32m131_2 (by decide) (by omega) (by omega) (fun q1 => ?_) (fun q1 => ?_)
  · -- taken: 37
    exact pd_vret X w rfl (by decide) (by decide) d_p32m131_37
  · -- not taken: 5
    exfalso
    omega
theorem d_p32m133_0 : decode prog_32_method_133_code 0 = .ok (.iload_n 1, 1) := by decide +kernel
theorem d_p32m133_1 : decode prog_32_method_133_code 1 = .ok (.iload_n 2, 1) := by decide +kernel
theorem d_p32m133_2 : decode prog_32_method_133_code 2 = .ok (.invokestatic 343, 3) := by decide +kernel
theorem d_p32m133_5 : decode prog_32_method_133_code 5 = .ok (.iload_n 2, 1) := by decide +kernel
theorem d_p32m133_6 : decode prog_32_method_133_code 6 = .ok (.iload_n 1, 1) := by decide +kernel
theorem d_p32m133_7 : decode prog_32_method_133_code 7 = .ok (.isub, 1) := by decide +kernel
theorem d_p32m133_8 : decode prog_32_method_133_code 8 = .ok (.istore_n 3, 1) := by decide +kernel
theorem d_p32m133_9 : decode prog_32_method_133_code 9 = .ok (.iload_n 3, 1) := by decide +kernel
theorem d_p32m133_10 : decode prog_32_method_133_code 10 = .ok (.newarray .byte, 2) := by decide +kernel
theorem d_p32m133_12 : decode prog_32_method_133_code 12 = .ok (.astore 4, 2) := by decide +kernel
theorem d_p32m133_14 : decode prog_32_method_133_code 14 = .ok (.aload_n 0, 1) := by decide +kernel
theorem d_p32m133_15 : decode prog_32_method_133_code 15 = .ok (.iload_n 1, 1) := by decide +kernel
theorem d_p32m133_16 : decode prog_32_method_133_code 16 = .ok (.aload 4, 2) := by decide +kernel
theorem d_p32m133_18 : decode prog_32_method_133_code 18 = .ok (.iconst 0, 1) := by decide +kernel
theorem d_p32m133_19 : decode prog_32_method_133_code 19 = .ok (.aload_n 0, 1) := by decide +kernel
theorem d_p32m133_20 : decode prog_32_method_133_code 20 = .ok (.arraylength, 1) := by decide +kernel
theorem d_p32m133_21 : decode prog_32_method_133_code 21 = .ok (.iload_n 1, 1) := by decide +kernel
theorem d_p32m133_22 : decode prog_32_method_133_code 22 = .ok (.isub, 1) := by decide +kernel
theorem d_p32m133_23 : decode prog_32_method_133_code 23 = .ok (.iload_n 3, 1) := by decide +kernel
theorem d_p32m133_24 : decode prog_32_method_133_code 24 = .ok (.invokestatic 304, 3) := by decide +kernel
theorem d_p32m133_27 : decode prog_32_method_133_code 27 = .ok (.invokestatic 150, 3) := by decide +kernel
theorem d_p32m133_30 : decode prog_32_method_133_code 30 = .ok (.aload 4, 2) := by decide +kernel
theorem d_p32m133_32 : decode prog_32_method_133_code 32 = .ok (.areturn, 1) := by decide +kernel
abbrev y_Arrays_copyOfRangeByte : MethodName := ⟨"java/util/Arrays", "copyOfRangeByte", "([BII)[B"⟩
theorem ok_Arrays_copyOfRangeByte : pd_ok y_Arrays_copyOfRangeByte prog_32_method_133_code 5 (some (.array .byte)) 3 := ⟨mT_506, mT_16, by decide, by decide +kernel⟩
abbrev rm_Arrays_copyOfRangeByte : Room := { frames := 1, cells := 1, slots := 60, locals := 40 }
set_option maxHeartbeats 4000000 in
set_option maxRecDepth 100000 in
theorem c_Arrays_copyOfRangeByte (l : Launch) (G : pd_G) (h : pd_H) {v1 n x y t0 : Nat} {f1 : Nat → Int32} (tg : Nat) (hv : h v1 = some (t0, .inl (.byte, n, .inl f1))) (hxy : x ≤ y) (hyn : y ≤ n) (hn : n < 2 ^ 30) (hb1 : y - x ≤ 60) (hfit : ∀ j, j < n → fits .byte (.int (f1 j)) = true) : pd_M l y_Arrays_copyOfRangeByte prog_32_method_133_code 5 (some (.array .byte)) rm_Arrays_copyOfRangeByte G h [.ref v1, .int (nI x), .int (nI y)] Value.ref (fun r h1 => pd_kx [] h h1 ∧ G.2.1 ≤ r ∧ ∃ g, h1 r = some (tg, .inl (.byte, y - x, .inl g)) ∧ ∀ j, j < y - x → g j = f1 (x + j)) := by
  refine pd_M.of (by decide) (Nat.le_of_ble_eq_true rfl) ?_
  intro p e s m below meth c X hmn w ls hl
  have hx := X.1
  have hb := X.2.1
  have hl : lv_has ls 5 [(0, .ref v1), (1, .int (nI x)), (2, .int (nI y))] := hl
  refine lv_iload_n hx hb d_p32m133_0 rfl (lv_at hl 1 rfl) ?_
  refine lv_iload_n hx hb d_p32m133_1 rfl (lv_at hl 2 rfl) ?_
  refine pd_cSv (As := [.int (nI x), .int (nI y)]) (rest := []) X w (c_Arrays_checkLength l G h (by omega) (by omega)) ok_Arrays_checkLength mT_508 mT_507 ⟨by decide, by decide⟩ rfl hl.1 rfl (Nat.le_of_ble_eq_true rfl) d_p32m133_2 ⟨by decide, by decide⟩ (fun h2 H locs hp3 w => ?_)
  refine W.widen (k := 0) (n := 0) (by decide) (by decide) ?_
  subst hp3
  refine lv_iload_n hx hb d_p32m133_5 rfl (lv_at hl 2 rfl) ?_
  refine lv_iload_n hx hb d_p32m133_6 rfl (lv_at hl 1 rfl) ?_
  refine pd_isub hx hb d_p32m133_7 (by omega) ?_
  refine lv_istore_n (lv' := [(3, .int (nI (y - x))), (0, .ref v1), (1, .int (nI x)), (2, .int (nI y))]) hx hb d_p32m133_8 rfl hl (by decide) rfl (fun ls hl => ?_)
  refine lv_iload_n hx hb d_p32m133_9 rfl (lv_at hl 0 rfl) ?_
  refine pd_newa (ty := .byte) (x := ((y - x), .inl (fun _ => 0))) tg X w rfl mT_72 rfl rfl (by omega) (by decide) (fun _ h9 => h9) (by decide) (Nat.le_trans (Nat.add_le_add_left (by omega : (y - x) ≤ 60) _) (by decide)) d_p32m133_10 (fun q4 H hq5 hz6 w => ?_)
  refine W.widen (k := 1) (n := 60) (by decide) (by omega) ?_
  obtain ⟨h7, u10⟩ : ∃ z, z = pd_up h q4 (tg, .inl (.byte, (y - x), .inl (fun _ => 0))) := ⟨_, rfl⟩
  rw [← u10] at w
  have k8 : pd_kx [] h h7 := by rw [u10]; exact pd_new_kx hq5
  have f9 : h7 q4 = some (tg, .inl (.byte, (y - x), .inl (fun _ => 0))) := by rw [u10]; exact pd_up_s _ _ _
  have f11 := k8 _ _ hv List.not_mem_nil
  refine lv_astore (lv' := [(4, .ref q4), (3, .int (nI (y - x))), (0, .ref v1), (1, .int (nI x)), (2, .int (nI y))]) hx hb d_p32m133_12 hl (by decide) rfl (fun ls hl => ?_)
  refine lv_aload_n hx hb d_p32m133_14 rfl (lv_at hl 2 rfl) ?_
  refine lv_iload_n hx hb d_p32m133_15 rfl (lv_at hl 3 rfl) ?_
  refine lv_aload hx hb d_p32m133_16 (lv_at hl 0 rfl) ?_
  refine lv_iconst (v := nI 0) hx hb d_p32m133_18 (by decide) ?_
  refine lv_aload_n hx hb d_p32m133_19 rfl (lv_at hl 2 rfl) ?_
  refine pd_alen X w f11 d_p32m133_20 ?_
  refine lv_iload_n hx hb d_p32m133_21 rfl (lv_at hl 3 rfl) ?_
  refine pd_isub hx hb d_p32m133_22 (by omega) ?_
  refine lv_iload_n hx hb d_p32m133_23 rfl (lv_at hl 1 rfl) ?_
  refine pd_mmin X hl.1 (by omega) (by omega) mT_244 mT_245 mT_15 mT_246 (by decide) (Nat.le_of_ble_eq_true rfl) (by decide) (by decide) d_p32m133_24 ?_
  refine pd_top (v' := .int (nI (y - x))) (by rw [Nat.min_eq_right (by omega)]) ?_
  refine pd_bcopy X hl.1 w f11 f9 hz6 mT_247 mT_249 mT_248 mT_17 (by omega) (by omega) (by omega) (by omega) (fun i hi => hfit _ (by omega)) (by decide) (Nat.le_of_ble_eq_true rfl) d_p32m133_27 (fun H locs w => ?_)
  have w : pd_w G s H locs (pd_up h7 q4 (tg, .inl (.byte, (y - x), .inl (va_cpy f1 (fun _ => 0) x 0 (y - x))))) := w
  obtain ⟨h12, u15⟩ : ∃ z, z = pd_up h7 q4 (tg, .inl (.byte, (y - x), .inl (va_cpy f1 (fun _ => 0) x 0 (y - x)))) := ⟨_, rfl⟩
  rw [← u15] at w
  have k13 : pd_kq q4 h7 h12 := by rw [u15]; exact pd_up_kq
  have f14 : h12 q4 = some (tg, .inl (.byte, (y - x), .inl (va_cpy f1 (fun _ => 0) x 0 (y - x)))) := by rw [u15]; exact pd_up_s _ _ _
  have f16 := k13 _ _ (pd_nn hv hq5) f11
  refine lv_aload hx hb d_p32m133_30 (lv_at hl 0 rfl) ?_
  have kt17 : pd_kx [] h h12 := by
    intro ya c9 ys0 n9
    have ys1 := k8 ya c9 ys0 List.not_mem_nil
    have ys2 := k13 ya c9 (pd_nn ys0 hq5) ys1
    exact ys2
  exact pd_aret (v := q4) X (Or.inr ⟨_, rfl⟩) w ⟨kt17, hz6, _, f14, fun j hj => by rw [pk_cpy_in (by omega) (by omega)]; exact congrArg f1 (by omega)⟩ (by decide) (by decide) d_p32m133_32
theorem d_p32m132_0 : decode prog_32_method_132_code 0 = .ok (.iload_n 1, 1) := by decide +kernel
theorem d_p32m132_1 : decode prog_32_method_132_code 1 = .ok (.ifCond .ne 9, 3) := by decide +kernel
theorem d_p32m132_4 : decode prog_32_method_132_code 4 = .ok (.iload_n 2, 1) := by decide +kernel
theorem d_p32m132_5 : decode prog_32_method_132_code 5 = .ok (.aload_n 0, 1) := by decide +kernel
theorem d_p32m132_6 : decode prog_32_method_132_code 6 = .ok (.arraylength, 1) := by decide +kernel
theorem d_p32m132_7 : decode prog_32_method_132_code 7 = .ok (.if_icmp .eq 10, 3) := by decide +kernel
theorem d_p32m132_10 : decode prog_32_method_132_code 10 = .ok (.aload_n 0, 1) := by decide +kernel
theorem d_p32m132_11 : decode prog_32_method_132_code 11 = .ok (.iload_n 1, 1) := by decide +kernel
theorem d_p32m132_12 : decode prog_32_method_132_code 12 = .ok (.iload_n 2, 1) := by decide +kernel
theorem d_p32m132_13 : decode prog_32_method_132_code 13 = .ok (.invokestatic 339, 3) := by decide +kernel
theorem d_p32m132_16 : decode prog_32_method_132_code 16 = .ok (.areturn, 1) := by decide +kernel
theorem d_p32m132_17 : decode prog_32_method_132_code 17 = .ok (.aload_n 0, 1) := by decide +kernel
theorem d_p32m132_18 : decode prog_32_method_132_code 18 = .ok (.invokevirtual 310, 3) := by decide +kernel
theorem d_p32m132_21 : decode prog_32_method_132_code 21 = .ok (.checkcast 311, 3) := by decide +kernel
theorem d_p32m132_24 : decode prog_32_method_132_code 24 = .ok (.areturn, 1) := by decide +kernel
abbrev y_Arrays_copyOfRange : MethodName := ⟨"java/util/Arrays", "copyOfRange", "([BII)[B"⟩
theorem ok_Arrays_copyOfRange : pd_ok y_Arrays_copyOfRange prog_32_method_132_code 3 (some (.array .byte)) 3 := ⟨mT_503, mT_16, by decide, by decide +kernel⟩
abbrev rm_Arrays_copyOfRange : Room := { frames := 2, cells := 1, slots := 60, locals := 64 }
set_option maxHeartbeats 4000000 in
set_option maxRecDepth 100000 in
theorem c_Arrays_copyOfRange (l : Launch) (G : pd_G) (h : pd_H) {v1 n x y t0 : Nat} {f1 : Nat → Int32} (tg : Nat) (hv : h v1 = some (t0, .inl (.byte, n, .inl f1))) (hxy : x ≤ y) (hyn : y ≤ n) (hn : n < 2 ^ 30) (hb1 : y - x ≤ 60) (hfit : ∀ j, j < n → fits .byte (.int (f1 j)) = true) (hzv : x = 0 → y = n → G.2.1 ≤ v1) : pd_M l y_Arrays_copyOfRange prog_32_method_132_code 3 (some (.array .byte)) rm_Arrays_copyOfRange G h [.ref v1, .int (nI x), .int (nI y)] Value.ref (fun r h1 => pd_kx [] h h1 ∧ G.2.1 ≤ r ∧ ∃ g, h1 r = some (tg, .inl (.byte, y - x, .inl g)) ∧ ∀ j, j < y - x → g j = f1 (x + j)) := by
  refine pd_M.of (by decide) (Nat.le_of_ble_eq_true rfl) ?_
  intro p e s m below meth c X hmn w ls hl
  have hx := X.1
  have hb := X.2.1
  have hl : lv_has ls 3 [(0, .ref v1), (1, .int (nI x)), (2, .int (nI y))] := hl
  refine lv_iload_n hx hb d_p32m132_0 rfl (lv_at hl 1 rfl) ?_
  refine pd_zne (tgt := 10) hx hb d_p32m132_1 (by decide) (by omega) (fun q1 => ?_) (fun q1 => ?_)
  · -- taken: 10
    refine lv_aload_n hx hb d_p32m132_10 rfl (lv_at hl 0 rfl) ?_
    refine lv_iload_n hx hb d_p32m132_11 rfl (lv_at hl 1 rfl) ?_
    refine lv_iload_n hx hb d_p32m132_12 rfl (lv_at hl 2 rfl) ?_
    refine pd_cS (As := [.ref v1, .int (nI x), .int (nI y)]) (rest := []) X w (c_Arrays_copyOfRangeByte l G h tg (by assumption) (by omega) (by omega) (by omega) (by omega) (by assumption)) ok_Arrays_copyOfRangeByte mT_505 mT_504 ⟨by decide, by decide⟩ rfl hl.1 rfl (Nat.le_of_ble_eq_true rfl) d_p32m132_13 ⟨by decide, by decide⟩ (fun r2 h3 H locs hp4 w => ?_)
    refine W.widen (k := 1) (n := 60) (by decide) (by decide) ?_
    obtain ⟨k5, hz6, g7, f8, gf9⟩ := hp4
    have f10 := k5 _ _ hv List.not_mem_nil
    exact pd_aret (v := r2) X (Or.inr ⟨_, rfl⟩) w ⟨k5, by assumption, _, by assumption, by assumption⟩ (by decide) (by decide) d_p32m132_16
  · -- not taken: 4
    refine lv_iload_n hx hb d_p32m132_4 rfl (lv_at hl 2 rfl) ?_
    refine lv_aload_n hx hb d_p32m132_5 rfl (lv_at hl 0 rfl) ?_
    refine pd_alen X w hv d_p32m132_6 ?_
    refine pd_jeq (tgt := 17) hx hb d_p32m132_7 (by decide) (by omega) (by omega) (fun q11 => ?_) (fun q11 => ?_)
    · -- taken: 17
      refine lv_aload_n hx hb d_p32m132_17 rfl (lv_at hl 0 rfl) ?_
      refine pd_bclone tg X hl.1 w hv (hzv (by omega) (by omega)) mT_435 mT_436 mT_437 mT_438 mT_439 mT_440 hfit (by decide) (Nat.le_of_ble_eq_true rfl) (by decide) (Nat.le_trans (Nat.add_le_add_left (by omega : n ≤ 60) _) (by decide)) d_p32m132_18 (fun q12 H hq13 hz14 w => ?_)
      refine W.widen (k := 1) (n := 60) (by decide) (by omega) ?_
      obtain ⟨h15, u18⟩ : ∃ z, z = pd_up h q12 (tg, .inl (.byte, n, .inl f1)) := ⟨_, rfl⟩
      rw [← u18] at w
      have k16 : pd_kx [] h h15 := by rw [u18]; exact pd_new_kx hq13
      have f17 : h15 q12 = some (tg, .inl (.byte, n, .inl f1)) := by rw [u18]; exact pd_up_s _ _ _
      have f19 := k16 _ _ hv List.not_mem_nil
      refine pd_castB X w f17 hz14 mT_441 d_p32m132_21 ?_
      exact pd_aret (v := q12) X (Or.inr ⟨_, rfl⟩) w ⟨k16, hz14, f1, (by rw [show y - x = n by omega]; exact f17), fun j hj => congrArg f1 (by omega)⟩ (by decide) (by decide) d_p32m132_24
    · -- not taken: 10
      refine lv_aload_n hx hb d_p32m132_10 rfl (lv_at hl 0 rfl) ?_
      refine lv_iload_n hx hb d_p32m132_11 rfl (lv_at hl 1 rfl) ?_
      refine lv_iload_n hx hb d_p32m132_12 rfl (lv_at hl 2 rfl) ?_
      refine pd_cS (As := [.ref v1, .int (nI x), .int (nI y)]) (rest := []) X w (c_Arrays_copyOfRangeByte l G h tg (by assumption) (by omega) (by omega) (by omega) (by omega) (by assumption)) ok_Arrays_copyOfRangeByte mT_505 mT_504 ⟨by decide, by decide⟩ rfl hl.1 rfl (Nat.le_of_ble_eq_true rfl) d_p32m132_13 ⟨by decide, by decide⟩ (fun r20 h21 H locs hp22 w => ?_)
      refine W.widen (k := 1) (n := 60) (by decide) (by decide) ?_
      obtain ⟨k23, hz24, g25, f26, gf27⟩ := hp22
      have f28 := k23 _ _ hv List.not_mem_nil
      exact pd_aret (v := r20) X (Or.inr ⟨_, rfl⟩) w ⟨k23, by assumption, _, by assumption, by assumption⟩ (by decide) (by decide) d_p32m132_16
theorem tx_fit {cs : List Nat} {f : Nat → Int32} (hf : ∀ j, j < cs.length → f j = sb_b (cs.getD j 0)) : ∀ j, j < cs.length → fits .byte (.int (f j)) = true := fun j hj => by rw [hf j hj]; exact sb_fitB _
/-- the letters from x on, up to y -/
def tx_sub (cs : List Nat) (x y : Nat) : List Nat := (cs.drop x).take (y - x)
theorem tx_sub_len {cs : List Nat} {x y : Nat} (hy : y ≤ cs.length) : (tx_sub cs x y).length = y - x := by
  unfold tx_sub
  rw [List.length_take, List.length_drop]
  omega
theorem tx_sub_get {cs : List Nat} {x y j : Nat} (hj : j < y - x) : (tx_sub cs x y).getD j 0 = cs.getD (x + j) 0 := by
  unfold tx_sub
  rw [List.getD_eq_getElem?_getD, List.getElem?_take, if_pos hj, List.getElem?_drop, ← List.getD_eq_getElem?_getD]
theorem tx_sub_lt {cs : List Nat} {x y : Nat} (hc : ∀ z ∈ cs, z < 256) : ∀ z ∈ tx_sub cs x y, z < 256 := fun z hz => hc z (List.mem_of_mem_drop (List.mem_of_mem_take hz))
theorem tx_sub_0 {cs : List Nat} {x y : Nat} (hy : y ≤ x) : tx_sub cs x y = [] := by
  unfold tx_sub
  rw [show y - x = 0 by omega]
  rfl
theorem tx_sub_all {cs : List Nat} : tx_sub cs 0 cs.length = cs := by simp [tx_sub]
theorem d_p24m151_0 : decode prog_24_method_151_code 0 = .ok (.aload_n 0, 1) := by decide +kernel
theorem d_p24m151_1 : decode prog_24_method_151_code 1 = .ok (.invokespecial 1, 3) := by decide +kernel
theorem d_p24m151_4 : decode prog_24_method_151_code 4 = .ok (.aload_n 0, 1) := by decide +kernel
theorem d_p24m151_5 : decode prog_24_method_151_code 5 = .ok (.aload_n 1, 1) := by decide +kernel
theorem d_p24m151_6 : decode prog_24_method_151_code 6 = .ok (.putfield 9, 3) := by decide +kernel
theorem d_p24m151_9 : decode prog_24_method_151_code 9 = .ok (.aload_n 0, 1) := by decide +kernel
theorem d_p24m151_10 : decode prog_24_method_151_code 10 = .ok (.iload_n 2, 1) := by decide +kernel
theorem d_p24m151_11 : decode prog_24_method_151_code 11 = .ok (.putfield 15, 3) := by decide +kernel
theorem d_p24m151_14 : decode prog_24_method_151_code 14 = .ok (.return_, 1) := by decide +kernel
abbrev y_String_initB : MethodName := ⟨"java/lang/String", "<init>", "([BB)V"⟩
theorem ok_String_initB : pd_ok y_String_initB prog_24_method_151_code 3 none 2 := ⟨mT_597, mT_4, by decide, by decide +kernel⟩
abbrev rm_String_initB : Room := { frames := 1, cells := 0, slots := 0, locals := 20 }
set_option maxHeartbeats 4000000 in
set_option maxRecDepth 100000 in
theorem c_String_initB (l : Launch) (G : pd_G) (h : pd_H) {a v1 : Nat} {tg : Nat} (ha : h a = some (tg, .inr (12, [.null, .int (nI 0)]))) (hz_a : G.2.1 ≤ a) : pd_Mv l y_String_initB prog_24_method_151_code 3 rm_String_initB G h [.ref a, .ref v1, .int (nI 0)] (fun h1 => pd_kq a h h1 ∧ h1 a = some (tg, .inr (12, [.ref v1, .int (nI 0)]))) := by
  refine pd_Mv.of (by decide) (Nat.le_of_ble_eq_true rfl) ?_
  intro p e s m below meth c X hmn w ls hl
  have hx := X.1
  have hb := X.2.1
  have hl : lv_has ls 3 [(0, .ref a), (1, .ref v1), (2, .int (nI 0))] := hl
  refine lv_aload_n hx hb d_p24m151_0 rfl (lv_at hl 0 rfl) ?_
  refine W.objInit hx hb X.2.2.2.2.1 (X.2.2.2.2.2.1 _ mT_493) (X.2.2.2.2.2.1 _ mT_38) (X.2.2.2.2.2.1 _ mT_39) rfl (by rw [X.2.2.2.1]; exact hl.1) rfl d_p24m151_1 (by decide) (Nat.le_of_ble_eq_true rfl) ?_
  refine W.eq (g2 := F0 m 4 ls []) rfl ?_
  refine lv_aload_n hx hb d_p24m151_4 rfl (lv_at hl 0 rfl) ?_
  refine lv_aload_n hx hb d_p24m151_5 rfl (lv_at hl 1 rfl) ?_
  refine pd_putF (ty := (.array .byte)) X w ha hz_a rfl 0 (by decide) mT_520 rfl rfl hmn rfl (by decide +kernel) rfl rfl (Nat.le_of_ble_eq_true rfl) d_p24m151_6 (fun H locs w => ?_)
  have w : pd_w G s H locs (pd_up h a (tg, .inr (12, [.ref v1, .int (nI 0)]))) := w
  obtain ⟨h1, u4⟩ : ∃ z, z = pd_up h a (tg, .inr (12, [.ref v1, .int (nI 0)])) := ⟨_, rfl⟩
  rw [← u4] at w
  have k2 : pd_kq a h h1 := by rw [u4]; exact pd_up_kq
  have f3 : h1 a = some (tg, .inr (12, [.ref v1, .int (nI 0)])) := by rw [u4]; exact pd_up_s _ _ _
  refine lv_aload_n hx hb d_p24m151_9 rfl (lv_at hl 0 rfl) ?_
  refine lv_iload_n hx hb d_p24m151_10 rfl (lv_at hl 2 rfl) ?_
  refine pd_putF (ty := .byte) X w f3 hz_a rfl 1 (by decide) mT_521 rfl rfl hmn rfl (by decide +kernel) (by decide) (by decide) (Nat.le_of_ble_eq_true rfl) d_p24m151_11 (fun H locs w => ?_)
  have w : pd_w G s H locs (pd_up h1 a (tg, .inr (12, [.ref v1, .int (nI 0)]))) := w
  obtain ⟨h5, u8⟩ : ∃ z, z = pd_up h1 a (tg, .inr (12, [.ref v1, .int (nI 0)])) := ⟨_, rfl⟩
  rw [← u8] at w
  have k6 : pd_kq a h1 h5 := by rw [u8]; exact pd_up_kq
  have f7 : h5 a = some (tg, .inr (12, [.ref v1, .int (nI 0)])) := by rw [u8]; exact pd_up_s _ _ _
  exact pd_vret X w ⟨(k2).tr k6, f7⟩ (by decide) (by decide) d_p24m151_14
theorem d_p26m47_0 : decode prog_26_method_47_code 0 = .ok (.iload_n 2, 1) := by decide +kernel
theorem d_p26m47_1 : decode prog_26_method_47_code 1 = .ok (.ifCond .ne 6, 3) := by decide +kernel
theorem d_p26m47_4 : decode prog_26_method_47_code 4 = .ok (.ldc 151, 2) := by decide +kernel
theorem d_p26m47_6 : decode prog_26_method_47_code 6 = .ok (.areturn, 1) := by decide +kernel
theorem d_p26m47_7 : decode prog_26_method_47_code 7 = .ok (.new 1, 3) := by decide +kernel
theorem d_p26m47_10 : decode prog_26_method_47_code 10 = .ok (.dup, 1) := by decide +kernel
theorem d_p26m47_11 : decode prog_26_method_47_code 11 = .ok (.aload_n 0, 1) := by decide +kernel
theorem d_p26m47_12 : decode prog_26_method_47_code 12 = .ok (.iload_n 1, 1) := by decide +kernel
theorem d_p26m47_13 : decode prog_26_method_47_code 13 = .ok (.iload_n 1, 1) := by decide +kernel
theorem d_p26m47_14 : decode prog_26_method_47_code 14 = .ok (.iload_n 2, 1) := by decide +kernel
theorem d_p26m47_15 : decode prog_26_method_47_code 15 = .ok (.iadd, 1) := by decide +kernel
theorem d_p26m47_16 : decode prog_26_method_47_code 16 = .ok (.invokestatic 232, 3) := by decide +kernel
theorem d_p26m47_19 : decode prog_26_method_47_code 19 = .ok (.iconst 0, 1) := by decide +kernel
theorem d_p26m47_20 : decode prog_26_method_47_code 20 = .ok (.invokespecial 112, 3) := by decide +kernel
theorem d_p26m47_23 : decode prog_26_method_47_code 23 = .ok (.areturn, 1) := by decide +kernel
abbrev y_StringLatin1_newString : MethodName := ⟨"java/lang/StringLatin1", "newString", "([BII)Ljava/lang/String;"⟩
theorem ok_StringLatin1_newString : pd_ok y_StringLatin1_newString prog_26_method_47_code 3 (some (.object "java/lang/String")) 3 := ⟨mT_591, mT_8, by decide, by decide +kernel⟩
abbrev rm_StringLatin1_newString : Room := { frames := 3, cells := 2, slots := 64, locals := 86 }
set_option maxHeartbeats 4000000 in
set_option maxRecDepth 100000 in
theorem c_StringLatin1_newString (l : Launch) (G : pd_G) (h : pd_H) {v1 x n : Nat} {cs : List Nat} {f1 : Nat → Int32} (ha : h v1 = some (0, .inl (.byte, cs.length, .inl f1))) (hf1 : ∀ j, j < cs.length → f1 j = sb_b (cs.getD j 0)) (hc1 : ∀ z ∈ cs, z < 256) (hl1 : cs.length ≤ 60) (hyn : x + n ≤ cs.length) (hzv : x = 0 → n = cs.length → G.2.1 ≤ v1) : pd_M l y_StringLatin1_newString prog_26_method_47_code 3 (some (.object "java/lang/String")) rm_StringLatin1_newString G h [.ref v1, .int (nI x), .int (nI n)] Value.ref (fun r h1 => pd_kx [] h h1 ∧ ∃ ds, ds = tx_sub cs x (x + n) ∧ pd_Str h1 r ds) := by
  refine pd_M.of (by decide) (Nat.le_of_ble_eq_true rfl) ?_
  intro p e s m below meth c X hmn w ls hl
  have hx := X.1
  have hb := X.2.1
  have hl : lv_has ls 3 [(0, .ref v1), (1, .int (nI x)), (2, .int (nI n))] := hl
  refine lv_iload_n hx hb d_p26m47_0 rfl (lv_at hl 2 rfl) ?_
  refine pd_zne (tgt := 7) hx hb d_p26m47_1 (by decide) (by omega) (fun q1 => ?_) (fun q1 => ?_)
  · -- taken: 7
    refine pd_new (ci := 12) (C := "java/lang/String") (T := pd_F12) (N := 2) (fs := [.null, .int (nI 0)]) 0 X w rfl mT_593 mT_486 mT_4 (pd_hfs (by decide +kernel)) (by decide) (by decide) d_p26m47_7 (fun q2 H hq3 hz4 w => ?_)
    refine W.widen (k := 1) (n := 4) (by decide) (by decide) ?_
    obtain ⟨h5, u8⟩ : ∃ z, z = pd_up h q2 (0, .inr (12, [.null, .int (nI 0)])) := ⟨_, rfl⟩
    rw [← u8] at w
    have k6 : pd_kx [] h h5 := by rw [u8]; exact pd_new_kx hq3
    have f7 : h5 q2 = some (0, .inr (12, [.null, .int (nI 0)])) := by rw [u8]; exact pd_up_s _ _ _
    have f9 := k6 _ _ ha List.not_mem_nil
    refine lv_dup hx hb d_p26m47_10 rfl ?_
    refine lv_aload_n hx hb d_p26m47_11 rfl (lv_at hl 0 rfl) ?_
    refine lv_iload_n hx hb d_p26m47_12 rfl (lv_at hl 1 rfl) ?_
    refine lv_iload_n hx hb d_p26m47_13 rfl (lv_at hl 1 rfl) ?_
    refine lv_iload_n hx hb d_p26m47_14 rfl (lv_at hl 2 rfl) ?_
    refine pd_iadd hx hb d_p26m47_15 ?_
    refine pd_cS (As := [.ref v1, .int (nI x), .int (nI (x + n))]) (rest := [.ref q2, .ref q2]) X w (c_Arrays_copyOfRange l G h5 0 (by assumption) (by omega) (by omega) (by omega) (by omega) (tx_fit hf1) (fun z1 z2 => hzv z1 (by omega))) ok_Arrays_copyOfRange mT_502 mT_594 ⟨by decide, by decide⟩ rfl hl.1 rfl (Nat.le_of_ble_eq_true rfl) d_p26m47_16 ⟨by decide, by decide⟩ (fun r10 h11 H locs hp12 w => ?_)
    refine W.widen (k := 2) (n := 64) (by decide) (by decide) ?_
    obtain ⟨k13, hz14, g15, f16, gf17⟩ := hp12
    have f18 := k13 _ _ f7 List.not_mem_nil
    have f19 := k13 _ _ f9 List.not_mem_nil
    refine lv_iconst (v := nI 0) hx hb d_p26m47_19 (by decide) ?_
    refine pd_cI (a := q2) (As := [.ref r10, .int (nI 0)]) (rest := [.ref q2]) X w (c_String_initB l G h11 (by assumption) (by assumption)) ok_String_initB rfl mT_596 mT_595 ⟨by decide, by decide⟩ rfl hl.1 rfl (Nat.le_of_ble_eq_true rfl) d_p26m47_20 ⟨by decide, by decide⟩ (fun h21 H locs hp22 w => ?_)
    refine W.widen (k := 2) (n := 64) (by decide) (by decide) ?_
    obtain ⟨k23, f24⟩ := hp22
    have f25 := k23 _ _ (pd_nn ha hq3) f19
    have f26 := k23 _ _ (pd_ne f16 f18 (by simp)) f16
    have kt27 : pd_kx [] h h21 := by
      intro ya c9 ys0 n9
      have ys1 := k6 ya c9 ys0 List.not_mem_nil
      have ys2 := k13 ya c9 ys1 List.not_mem_nil
      have ys3 := k23 ya c9 (pd_nn ys0 hq3) ys2
      exact ys3
    exact pd_aret (v := q2) X (Or.inl ⟨_, rfl⟩) w ⟨kt27, _, rfl, _, g15, f24, (by rw [tx_sub_len hyn, show x + n - x = n by omega]; first | exact f26 | (have z := f26; rwa [show x + n - x = n by omega] at z)), fun j hj => (by rw [tx_sub_len hyn] at hj; rw [gf17 j hj, tx_sub_get hj, hf1 _ (by omega)]), tx_sub_lt hc1, (by rw [tx_sub_len hyn]; omega)⟩ (by decide) (by decide) d_p26m47_23
  · -- not taken: 4
    refine pd_ldc X (List.mem_of_getElem? (i := 3) rfl) d_p26m47_4 ?_
    have L28 : pd_Str h (G.2.2.2 43) [] := pd_litS X w 3 (by decide)
    obtain ⟨v29, g30, f31, f32, gf33, gc34, gl35⟩ := id L28
    exact pd_aret (v := (G.2.2.2 43)) X (Or.inl ⟨_, rfl⟩) w ⟨pd_kx.rf, _, rfl, (by rw [tx_sub_0 (by omega)]; assumption)⟩ (by decide) (by decide) d_p26m47_6
theorem d_p24m92_0 : decode prog_24_method_92_code 0 = .ok (.aload_n 0, 1) := by decide +kernel
theorem d_p24m92_1 : decode prog_24_method_92_code 1 = .ok (.invokevirtual 505, 3) := by decide +kernel
theorem d_p24m92_4 : decode prog_24_method_92_code 4 = .ok (.istore_n 3, 1) := by decide +kernel
theorem d_p24m92_5 : decode prog_24_method_92_code 5 = .ok (.iload_n 1, 1) := by decide +kernel
theorem d_p24m92_6 : decode prog_24_method_92_code 6 = .ok (.iload_n 2, 1) := by decide +kernel
theorem d_p24m92_7 : decode prog_24_method_92_code 7 = .ok (.iload_n 3, 1) := by decide +kernel
theorem d_p24m92_8 : decode prog_24_method_92_code 8 = .ok (.invokestatic 521, 3) := by decide +kernel
theorem d_p24m92_11 : decode prog_24_method_92_code 11 = .ok (.iload_n 1, 1) := by decide +kernel
theorem d_p24m92_12 : decode prog_24_method_92_code 12 = .ok (.ifCond .ne 10, 3) := by decide +kernel
theorem d_p24m92_15 : decode prog_24_method_92_code 15 = .ok (.iload_n 2, 1) := by decide +kernel
theorem d_p24m92_16 : decode prog_24_method_92_code 16 = .ok (.iload_n 3, 1) := by decide +kernel
theorem d_p24m92_17 : decode prog_24_method_92_code 17 = .ok (.if_icmp .ne 5, 3) := by decide +kernel
theorem d_p24m92_20 : decode prog_24_method_92_code 20 = .ok (.aload_n 0, 1) := by decide +kernel
theorem d_p24m92_21 : decode prog_24_method_92_code 21 = .ok (.areturn, 1) := by decide +kernel
theorem d_p24m92_22 : decode prog_24_method_92_code 22 = .ok (.iload_n 2, 1) := by decide +kernel
theorem d_p24m92_23 : decode prog_24_method_92_code 23 = .ok (.iload_n 1, 1) := by decide +kernel
theorem d_p24m92_24 : decode prog_24_method_92_code 24 = .ok (.isub, 1) := by decide +kernel
theorem d_p24m92_25 : decode prog_24_method_92_code 25 = .ok (.istore 4, 2) := by decide +kernel
theorem d_p24m92_27 : decode prog_24_method_92_code 27 = .ok (.aload_n 0, 1) := by decide +kernel
theorem d_p24m92_28 : decode prog_24_method_92_code 28 = .ok (.invokevirtual 492, 3) := by decide +kernel
theorem d_p24m92_31 : decode prog_24_method_92_code 31 = .ok (.ifCond .eq 16, 3) := by decide +kernel
theorem d_p24m92_34 : decode prog_24_method_92_code 34 = .ok (.aload_n 0, 1) := by decide +kernel
theorem d_p24m92_35 : decode prog_24_method_92_code 35 = .ok (.getfield 9, 3) := by decide +kernel
theorem d_p24m92_38 : decode prog_24_method_92_code 38 = .ok (.iload_n 1, 1) := by decide +kernel
theorem d_p24m92_39 : decode prog_24_method_92_code 39 = .ok (.iload 4, 2) := by decide +kernel
theorem d_p24m92_41 : decode prog_24_method_92_code 41 = .ok (.invokestatic 685, 3) := by decide +kernel
theorem d_p24m92_44 : decode prog_24_method_92_code 44 = .ok (.goto 13, 3) := by decide +kernel
theorem d_p24m92_47 : decode prog_24_method_92_code 47 = .ok (.aload_n 0, 1) := by decide +kernel
theorem d_p24m92_48 : decode prog_24_method_92_code 48 = .ok (.getfield 9, 3) := by decide +kernel
theorem d_p24m92_51 : decode prog_24_method_92_code 51 = .ok (.iload_n 1, 1) := by decide +kernel
theorem d_p24m92_52 : decode prog_24_method_92_code 52 = .ok (.iload 4, 2) := by decide +kernel
theorem d_p24m92_54 : decode prog_24_method_92_code 54 = .ok (.invokestatic 689, 3) := by decide +kernel
theorem d_p24m92_57 : decode prog_24_method_92_code 57 = .ok (.areturn, 1) := by decide +kernel
abbrev y_String_substring2 : MethodName := ⟨"java/lang/String", "substring", "(II)Ljava/lang/String;"⟩
theorem ok_String_substring2 : pd_ok y_String_substring2 prog_24_method_92_code 5 (some (.object "java/lang/String")) 2 := ⟨mT_581, mT_4, by decide, by decide +kernel⟩
abbrev rm_String_substring2 : Room := { frames := 4, cells := 2, slots := 64, locals := 108 }
set_option maxHeartbeats 4000000 in
set_option maxRecDepth 100000 in
theorem c_String_substring2 (l : Launch) (G : pd_G) (h : pd_H) {a : Nat} {cs : List Nat} {x y : Nat} (hS : pd_Str h a cs) (hxy : x ≤ y) (hyl : y ≤ cs.length) : pd_M l y_String_substring2 prog_24_method_92_code 5 (some (.object "java/lang/String")) rm_String_substring2 G h [.ref a, .int (nI x), .int (nI y)] Value.ref (fun r h1 => pd_kx [] h h1 ∧ ∃ ds, ds = tx_sub cs x y ∧ pd_Str h1 r ds) := by
  refine pd_M.of (by decide) (Nat.le_of_ble_eq_true rfl) ?_
  intro p e s m below meth c X hmn w ls hl
  have hx := X.1
  have hb := X.2.1
  have hl : lv_has ls 5 [(0, .ref a), (1, .int (nI x)), (2, .int (nI y))] := hl
  obtain ⟨v1, f1, hv1, hv2, hvf, hvc, hvl⟩ := id hS
  refine lv_aload_n hx hb d_p24m92_0 rfl (lv_at hl 0 rfl) ?_
  refine pd_cV (a := a) (As := []) (rest := []) X w hv1 rfl (c_String_length l G h (by assumption)) ok_String_length ⟨mT_93, mT_94⟩ mT_582 ⟨by decide, by decide⟩ rfl hl.1 rfl (Nat.le_of_ble_eq_true rfl) d_p24m92_1 ⟨by decide, by decide⟩ (fun r1 h2 H locs hp3 w => ?_)
  refine W.widen (k := 0) (n := 0) (by decide) (by decide) ?_
  obtain ⟨e4, rfl⟩ := hp3
  subst e4
  refine lv_istore_n (lv' := [(3, .int (nI cs.length)), (0, .ref a), (1, .int (nI x)), (2, .int (nI y))]) hx hb d_p24m92_4 rfl hl (by decide) rfl (fun ls hl => ?_)
  refine lv_iload_n hx hb d_p24m92_5 rfl (lv_at hl 2 rfl) ?_
  refine lv_iload_n hx hb d_p24m92_6 rfl (lv_at hl 3 rfl) ?_
  refine lv_iload_n hx hb d_p24m92_7 rfl (lv_at hl 0 rfl) ?_
  refine pd_cSv (As := [.int (nI x), .int (nI y), .int (nI cs.length)]) (rest := []) X w (c_String_checkBoundsBeginEnd l G h (by omega) (by omega) (by omega)) ok_String_checkBoundsBeginEnd mT_584 mT_583 ⟨by decide, by decide⟩ rfl hl.1 rfl (Nat.le_of_ble_eq_true rfl) d_p24m92_8 ⟨by decide, by decide⟩ (fun h6 H locs hp7 w => ?_)
  refine W.widen (k := 0) (n := 0) (by decide) (by decide) ?_
  subst hp7
  refine lv_iload_n hx hb d_p24m92_11 rfl (lv_at hl 2 rfl) ?_
  refine pd_zne (tgt := 22) hx hb d_p24m92_12 (by decide) (by omega) (fun q8 => ?_) (fun q8 => ?_)
  · -- taken: 22
    refine lv_iload_n hx hb d_p24m92_22 rfl (lv_at hl 3 rfl) ?_
    refine lv_iload_n hx hb d_p24m92_23 rfl (lv_at hl 2 rfl) ?_
    refine pd_isub hx hb d_p24m92_24 (by omega) ?_
    refine lv_istore (lv' := [(4, .int (nI (y - x))), (3, .int (nI cs.length)), (0, .ref a), (1, .int (nI x)), (2, .int (nI y))]) hx hb d_p24m92_25 hl (by decide) rfl (fun ls hl => ?_)
    refine lv_aload_n hx hb d_p24m92_27 rfl (lv_at hl 2 rfl) ?_
    refine pd_cV (a := a) (As := []) (rest := []) X w hv1 rfl (c_String_isLatin1 l G h (by assumption)) ok_String_isLatin1 ⟨mT_106, mT_107⟩ mT_105 ⟨by decide, by decide⟩ rfl hl.1 rfl (Nat.le_of_ble_eq_true rfl) d_p24m92_28 ⟨by decide, by decide⟩ (fun r9 h10 H locs hp11 w => ?_)
    refine W.widen (k := 0) (n := 0) (by decide) (by decide) ?_
    obtain ⟨e12, rfl⟩ := hp11
    subst e12
    refine W.eq (g2 := F0 m 31 ls [.int (nI 1)]) rfl ?_
    refine pd_zeq (tgt := 47) hx hb d_p24m92_31 (by decide) (by decide) (fun q => absurd q (by decide)) (fun _ => ?_)
    refine lv_aload_n hx hb d_p24m92_34 rfl (lv_at hl 2 rfl) ?_
    refine pd_get X w hv1 rfl 0 (by decide) mT_520 rfl rfl d_p24m92_35 ?_
    refine lv_iload_n hx hb d_p24m92_38 rfl (lv_at hl 3 rfl) ?_
    refine lv_iload hx hb d_p24m92_39 (lv_at hl 0 rfl) ?_
    refine pd_cS (As := [.ref v1, .int (nI x), .int (nI (y - x))]) (rest := []) X w (c_StringLatin1_newString l G h (by assumption) (by assumption) (by assumption) (by assumption) (by omega) (fun _ _ => by omega)) ok_StringLatin1_newString mT_590 mT_589 ⟨by decide, by decide⟩ rfl hl.1 rfl (Nat.le_of_ble_eq_true rfl) d_p24m92_41 ⟨by decide, by decide⟩ (fun r14 h15 H locs hp16 w => ?_)
    refine W.widen (k := 2) (n := 64) (by decide) (by decide) ?_
    obtain ⟨k17, ds18, e19, f20⟩ := hp16
    have f28 := k17 _ _ hv1 List.not_mem_nil
    have f29 := k17 _ _ hv2 List.not_mem_nil
    have f30 := hS.kx k17 List.not_mem_nil
    obtain ⟨v21, g22, f23, f24, gf25, gc26, gl27⟩ := id f20
    refine lv_goto (tgt := 57) hx hb d_p24m92_44 (by decide) ?_
    exact pd_aret (v := r14) X (Or.inl ⟨_, rfl⟩) w ⟨k17, _, (by rw [e19, show x + (y - x) = y by omega]), f20⟩ (by decide) (by decide) d_p24m92_57
  · -- not taken: 15
    refine lv_iload_n hx hb d_p24m92_15 rfl (lv_at hl 3 rfl) ?_
    refine lv_iload_n hx hb d_p24m92_16 rfl (lv_at hl 0 rfl) ?_
    refine pd_jne (tgt := 22) hx hb d_p24m92_17 (by decide) (by omega) (by omega) (fun q31 => ?_) (fun q31 => ?_)
    · -- taken: 22
      refine lv_iload_n hx hb d_p24m92_22 rfl (lv_at hl 3 rfl) ?_
      refine lv_iload_n hx hb d_p24m92_23 rfl (lv_at hl 2 rfl) ?_
      refine pd_isub hx hb d_p24m92_24 (by omega) ?_
      refine lv_istore (lv' := [(4, .int (nI (y - x))), (3, .int (nI cs.length)), (0, .ref a), (1, .int (nI x)), (2, .int (nI y))]) hx hb d_p24m92_25 hl (by decide) rfl (fun ls hl => ?_)
      refine lv_aload_n hx hb d_p24m92_27 rfl (lv_at hl 2 rfl) ?_
      refine pd_cV (a := a) (As := []) (rest := []) X w hv1 rfl (c_String_isLatin1 l G h (by assumption)) ok_String_isLatin1 ⟨mT_106, mT_107⟩ mT_105 ⟨by decide, by decide⟩ rfl hl.1 rfl (Nat.le_of_ble_eq_true rfl) d_p24m92_28 ⟨by decide, by decide⟩ (fun r32 h33 H locs hp34 w => ?_)
      refine W.widen (k := 0) (n := 0) (by decide) (by decide) ?_
      obtain ⟨e35, rfl⟩ := hp34
      subst e35
      refine W.eq (g2 := F0 m 31 ls [.int (nI 1)]) rfl ?_
      refine pd_zeq (tgt := 47) hx hb d_p24m92_31 (by decide) (by decide) (fun q => absurd q (by decide)) (fun _ => ?_)
      refine lv_aload_n hx hb d_p24m92_34 rfl (lv_at hl 2 rfl) ?_
      refine pd_get X w hv1 rfl 0 (by decide) mT_520 rfl rfl d_p24m92_35 ?_
      refine lv_iload_n hx hb d_p24m92_38 rfl (lv_at hl 3 rfl) ?_
      refine lv_iload hx hb d_p24m92_39 (lv_at hl 0 rfl) ?_
      refine pd_cS (As := [.ref v1, .int (nI x), .int (nI (y - x))]) (rest := []) X w (c_StringLatin1_newString l G h (by assumption) (by assumption) (by assumption) (by assumption) (by omega) (fun _ _ => by omega)) ok_StringLatin1_newString mT_590 mT_589 ⟨by decide, by decide⟩ rfl hl.1 rfl (Nat.le_of_ble_eq_true rfl) d_p24m92_41 ⟨by decide, by decide⟩ (fun r37 h38 H locs hp39 w => ?_)
      refine W.widen (k := 2) (n := 64) (by decide) (by decide) ?_
      obtain ⟨k40, ds41, e42, f43⟩ := hp39
      have f51 := k40 _ _ hv1 List.not_mem_nil
      have f52 := k40 _ _ hv2 List.not_mem_nil
      have f53 := hS.kx k40 List.not_mem_nil
      obtain ⟨v44, g45, f46, f47, gf48, gc49, gl50⟩ := id f43
      refine lv_goto (tgt := 57) hx hb d_p24m92_44 (by decide) ?_
      exact pd_aret (v := r37) X (Or.inl ⟨_, rfl⟩) w ⟨k40, _, (by rw [e42, show x + (y - x) = y by omega]), f43⟩ (by decide) (by decide) d_p24m92_57
    · -- not taken: 20
      refine lv_aload_n hx hb d_p24m92_20 rfl (lv_at hl 1 rfl) ?_
      exact pd_aret (v := a) X (Or.inl ⟨_, rfl⟩) w ⟨pd_kx.rf, _, rfl, (by rw [show x = 0 by omega, show y = cs.length by omega, tx_sub_all]; assumption)⟩ (by decide) (by decide) d_p24m92_21
theorem d_p24m91_0 : decode prog_24_method_91_code 0 = .ok (.aload_n 0, 1) := by decide +kernel
theorem d_p24m91_1 : decode prog_24_method_91_code 1 = .ok (.iload_n 1, 1) := by decide +kernel
theorem d_p24m91_2 : decode prog_24_method_91_code 2 = .ok (.aload_n 0, 1) := by decide +kernel
theorem d_p24m91_3 : decode prog_24_method_91_code 3 = .ok (.invokevirtual 505, 3) := by decide +kernel
theorem d_p24m91_6 : decode prog_24_method_91_code 6 = .ok (.invokevirtual 681, 3) := by decide +kernel
theorem d_p24m91_9 : decode prog_24_method_91_code 9 = .ok (.areturn, 1) := by decide +kernel
abbrev y_String_substring : MethodName := ⟨"java/lang/String", "substring", "(I)Ljava/lang/String;"⟩
theorem ok_String_substring : pd_ok y_String_substring prog_24_method_91_code 2 (some (.object "java/lang/String")) 1 := ⟨mT_704, mT_4, by decide, by decide +kernel⟩
abbrev rm_String_substring : Room := { frames := 5, cells := 2, slots := 64, locals := 132 }
set_option maxHeartbeats 4000000 in
set_option maxRecDepth 100000 in
theorem c_String_substring (l : Launch) (G : pd_G) (h : pd_H) {a : Nat} {cs : List Nat} {x : Nat} (hS : pd_Str h a cs) (hxl : x ≤ cs.length) : pd_M l y_String_substring prog_24_method_91_code 2 (some (.object "java/lang/String")) rm_String_substring G h [.ref a, .int (nI x)] Value.ref (fun r h1 => pd_kx [] h h1 ∧ ∃ ds, ds = tx_sub cs x cs.length ∧ pd_Str h1 r ds) := by
  refine pd_M.of (by decide) (Nat.le_of_ble_eq_true rfl) ?_
  intro p e s m below meth c X hmn w ls hl
  have hx := X.1
  have hb := X.2.1
  have hl : lv_has ls 2 [(0, .ref a), (1, .int (nI x))] := hl
  obtain ⟨v1, f1, hv1, hv2, hvf, hvc, hvl⟩ := id hS
  refine lv_aload_n hx hb d_p24m91_0 rfl (lv_at hl 0 rfl) ?_
  refine lv_iload_n hx hb d_p24m91_1 rfl (lv_at hl 1 rfl) ?_
  refine lv_aload_n hx hb d_p24m91_2 rfl (lv_at hl 0 rfl) ?_
  refine pd_cV (a := a) (As := []) (rest := [.int (nI x), .ref a]) X w hv1 rfl (c_String_length l G h (by assumption)) ok_String_length ⟨mT_93, mT_94⟩ mT_582 ⟨by decide, by decide⟩ rfl hl.1 rfl (Nat.le_of_ble_eq_true rfl) d_p24m91_3 ⟨by decide, by decide⟩ (fun r1 h2 H locs hp3 w => ?_)
  refine W.widen (k := 0) (n := 0) (by decide) (by decide) ?_
  obtain ⟨e4, rfl⟩ := hp3
  subst e4
  refine pd_cV (a := a) (As := [.int (nI x), .int (nI cs.length)]) (rest := []) X w hv1 rfl (c_String_substring2 l G h (by assumption) (by omega) (by omega)) ok_String_substring2 ⟨mT_579, mT_580⟩ mT_705 ⟨by decide, by decide⟩ rfl hl.1 rfl (Nat.le_of_ble_eq_true rfl) d_p24m91_6 ⟨by decide, by decide⟩ (fun r5 h6 H locs hp7 w => ?_)
  refine W.widen (k := 2) (n := 64) (by decide) (by decide) ?_
  obtain ⟨k8, ds9, e10, f11⟩ := hp7
  have f19 := k8 _ _ hv1 List.not_mem_nil
  have f20 := k8 _ _ hv2 List.not_mem_nil
  have f21 := hS.kx k8 List.not_mem_nil
  obtain ⟨v12, g13, f14, f15, gf16, gc17, gl18⟩ := id f11
  exact pd_aret (v := r5) X (Or.inl ⟨_, rfl⟩) w ⟨k8, _, e10, f11⟩ (by decide) (by decide) d_p24m91_9
