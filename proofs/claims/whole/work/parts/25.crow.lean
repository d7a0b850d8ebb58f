theorem d_p4m4_0 : decode prog_4_method_4_code 0 = .ok (.new 63, 3) := by decide +kernel
theorem d_p4m4_3 : decode prog_4_method_4_code 3 = .ok (.dup, 1) := by decide +kernel
theorem d_p4m4_4 : decode prog_4_method_4_code 4 = .ok (.invokespecial 65, 3) := by decide +kernel
theorem d_p4m4_7 : decode prog_4_method_4_code 7 = .ok (.astore_n 2, 1) := by decide +kernel
theorem d_p4m4_8 : decode prog_4_method_4_code 8 = .ok (.aload_n 2, 1) := by decide +kernel
theorem d_p4m4_9 : decode prog_4_method_4_code 9 = .ok (.aload_n 0, 1) := by decide +kernel
theorem d_p4m4_10 : decode prog_4_method_4_code 10 = .ok (.invokestatic 66, 3) := by decide +kernel
theorem d_p4m4_13 : decode prog_4_method_4_code 13 = .ok (.aload_n 2, 1) := by decide +kernel
theorem d_p4m4_14 : decode prog_4_method_4_code 14 = .ok (.aload_n 1, 1) := by decide +kernel
theorem d_p4m4_15 : decode prog_4_method_4_code 15 = .ok (.invokestatic 66, 3) := by decide +kernel
theorem d_p4m4_18 : decode prog_4_method_4_code 18 = .ok (.aload_n 2, 1) := by decide +kernel
theorem d_p4m4_19 : decode prog_4_method_4_code 19 = .ok (.areturn, 1) := by decide +kernel
abbrev y_ClassRow_facesOf : MethodName := ⟨"PolicyDesk$ClassRow", "facesOf", "(LPolicyDesk$ClassRow;LPolicyDesk$ClassRow;)Ljava/util/ArrayList;"⟩
theorem ok_ClassRow_facesOf : pd_ok y_ClassRow_facesOf prog_4_method_4_code 3 (some (.object "java/util/ArrayList")) 2 := ⟨mT_141, mT_7, by decide, by decide +kernel⟩
abbrev rm_ClassRow_facesOf : Room := { frames := 9, cells := 29, slots := 423, locals := 215 }
set_option maxHeartbeats 4000000 in
set_option maxRecDepth 100000 in
theorem c_ClassRow_facesOf (l : Launch) (G : pd_G) (h : pd_H) {A : Nat → Nat} {n : Nat} {R : Nat → pd_cr} {o1 o2 : Option Nat} (hR : pd_Rows G h A n R) (ho1 : ∀ k, o1 = some k → k < n) (ho2 : ∀ k, o2 = some k → k < n) (hn13 : n ≤ 13) : pd_M l y_ClassRow_facesOf prog_4_method_4_code 3 (some (.object "java/util/ArrayList")) rm_ClassRow_facesOf G h [va_rf (o1.map A), va_rf (o2.map A)] Value.ref (fun r h1 => pd_kx [7, 8] h h1 ∧ pd_AL G h1 r 0 0 ((gr_fc R o1 o2).map A)) := by
  refine pd_M.of (by decide) (by cases o1 <;> cases o2 <;> exact Nat.le_of_ble_eq_true rfl) ?_
  intro p e s m below meth c X hmn w ls hl
  have hx := X.1
  have hb := X.2.1
  have hl : lv_has ls 3 [(0, va_rf (o1.map A)), (1, va_rf (o2.map A))] := by simp only [lv_args, pd_cat] at hl; simpa [Value.category] using hl
  have hcw := hR.2.2
  have hAi := hR.2.1
  have hn14 := hcw.1
  refine pd_new (ci := 13) (C := "java/util/ArrayList") (T := pd_F13) (N := 3) (fs := [.null, .int (nI 0), .int (nI 0)]) 7 X w rfl mT_142 mT_143 mT_12 (pd_hfs (by decide +kernel)) (by decide) (by decide) d_p4m4_0 (fun q1 H hq2 hz3 w => ?_)
  refine W.widen (k := 1) (n := 3) (by decide) (by decide) ?_
  obtain ⟨h4, u7⟩ : ∃ z, z = pd_up h q1 (7, .inr (13, [.null, .int (nI 0), .int (nI 0)])) := ⟨_, rfl⟩
  rw [← u7] at w
  have k5 : pd_kx [] h h4 := by rw [u7]; exact pd_new_kx hq2
  have f6 : h4 q1 = some (7, .inr (13, [.null, .int (nI 0), .int (nI 0)])) := by rw [u7]; exact pd_up_s _ _ _
  have f8 := hR.kx k5 List.not_mem_nil
  refine lv_dup hx hb d_p4m4_3 rfl ?_
  refine pd_cI (a := q1) (As := []) (rest := [.ref q1]) X w (c_ArrayList_init l G h4 (by assumption) (by assumption)) ok_ArrayList_init rfl mT_145 mT_144 ⟨by decide, by decide⟩ rfl hl.1 rfl (Nat.le_of_ble_eq_true rfl) d_p4m4_4 ⟨by decide, by decide⟩ (fun h10 H locs hp11 w => ?_)
  refine W.widen (k := 1) (n := 3) (by decide) (by decide) ?_
  obtain ⟨k12, f13⟩ := hp11
  have f14 := f8.kx (pd_kq.kx k12 f6) (show (0 : Nat) ∉ [7] by decide)
  have f15 : pd_AL G h10 q1 7 8 (([] : List Nat).map A) := ⟨_, 0, fun _ => none, f13, Or.inl ⟨rfl, rfl⟩, Nat.le_refl _, (fun j hj => absurd hj (Nat.not_lt_zero j)), (fun y hy => absurd hy List.not_mem_nil), hz3⟩
  refine lv_astore_n (lv' := [(2, .ref q1), (0, va_rf (o1.map A)), (1, va_rf (o2.map A))]) hx hb d_p4m4_7 rfl hl (by decide) (by simp [pd_cat]) (fun ls hl => ?_)
  refine lv_aload_n hx hb d_p4m4_8 rfl (lv_at hl 0 rfl) ?_
  refine pd_oload_n hx hb d_p4m4_9 rfl (lv_at hl 1 rfl) ?_
  refine pd_cSv (As := [.ref q1, va_rf (o1.map A)]) (rest := []) X w (c_ClassRow_addWithItsOwn l G h10 (by assumption) (by assumption) (by assumption) List.nodup_nil (fun z hz => absurd hz List.not_mem_nil) (by omega)) ok_ClassRow_addWithItsOwn mT_169 mT_168 ⟨by decide, by decide⟩ rfl hl.1 rfl (Nat.le_of_ble_eq_true rfl) d_p4m4_10 ⟨by decide, by decide⟩ (fun h17 H locs hp18 w => ?_)
  refine W.widen (k := 15) (n := 213) (by decide) (by decide) ?_
  obtain ⟨k19, f20⟩ := hp18
  have f21 := f14.kx k19 (show (0 : Nat) ∉ [7, 8] by decide)
  refine lv_aload_n hx hb d_p4m4_13 rfl (lv_at hl 0 rfl) ?_
  refine pd_oload_n hx hb d_p4m4_14 rfl (lv_at hl 2 rfl) ?_
  refine pd_cSv (As := [.ref q1, va_rf (o2.map A)]) (rest := []) X w (c_ClassRow_addWithItsOwn l G h17 (by assumption) (by assumption) (by assumption) (gr_addw_nd List.nodup_nil) (gr_addw_lt hcw (fun z hz => absurd hz List.not_mem_nil) ho1) (by omega)) ok_ClassRow_addWithItsOwn mT_169 mT_168 ⟨by decide, by decide⟩ rfl hl.1 rfl (Nat.le_of_ble_eq_true rfl) d_p4m4_15 ⟨by decide, by decide⟩ (fun h23 H locs hp24 w => ?_)
  refine W.widen (k := 29) (n := 423) (by decide) (by decide) ?_
  obtain ⟨k25, f26⟩ := hp24
  have f27 := f21.kx k25 (show (0 : Nat) ∉ [7, 8] by decide)
  refine lv_aload_n hx hb d_p4m4_18 rfl (lv_at hl 0 rfl) ?_
  obtain ⟨h28, w, k29, f30⟩ := pd_AL.tag w X.2.2.2.2.2.2.2.2.2.1 f26
  have f31 := f27.kx k29 (show (0 : Nat) ∉ [7, 8] by decide)
  have kt32 : pd_kx [7, 8] h h28 := by
    intro ya c9 ys0 n9
    have ys1 := k5 ya c9 ys0 List.not_mem_nil
    have ys2 := k12 ya c9 (pd_nn ys0 hq2) ys1
    have ys3 := k19 ya c9 ys2 (fun z9 => n9 ((show ∀ t ∈ [7, 8], t ∈ [7, 8] by simp) _ z9))
    have ys4 := k25 ya c9 ys3 (fun z9 => n9 ((show ∀ t ∈ [7, 8], t ∈ [7, 8] by simp) _ z9))
    have ys5 := k29 ya c9 ys4 (fun z9 => n9 ((show ∀ t ∈ [7, 8], t ∈ [7, 8] by simp) _ z9))
    exact ys5
  exact pd_aret (v := q1) X (Or.inl ⟨_, rfl⟩) w ⟨kt32, f30⟩ (by decide) (by decide) d_p4m4_19
theorem gr_fc_nd {R : Nat → pd_cr} {o1 o2 : Option Nat} : (gr_fc R o1 o2).Nodup := gr_addw_nd (gr_addw_nd List.nodup_nil)
theorem gr_fc_lt {n : Nat} {R : Nat → pd_cr} {o1 o2 : Option Nat} (hc : pd_cw n R) (h1 : ∀ k, o1 = some k → k < n) (h2 : ∀ k, o2 = some k → k < n) : ∀ x ∈ gr_fc R o1 o2, x < n := gr_addw_lt hc (gr_addw_lt hc (fun z hz => absurd hz List.not_mem_nil) h1) h2
def gr_bits (R : Nat → pd_cr) (n : Nat) (ab fi se : Option Nat) : Int32 := (((nI 1 <<< (nI n &&& 31)) ||| gr_bt R ab) ||| gr_bt R fi) ||| gr_bt R se
/-- the row that the constructor makes -/
def gr_row (R : Nat → pd_cr) (n : Nat) (cs : List Nat) (itf : Bool) (ab fi se : Option Nat) : pd_cr := (cs, itf, ab, fi, se, gr_bits R n ab fi se, gr_fc R fi se)
theorem d_p4m1_0 : decode prog_4_method_1_code 0 = .ok (.aload_n 0, 1) := by decide +kernel
theorem d_p4m1_1 : decode prog_4_method_1_code 1 = .ok (.invokespecial 1, 3) := by decide +kernel
theorem d_p4m1_4 : decode prog_4_method_1_code 4 = .ok (.aload_n 0, 1) := by decide +kernel
theorem d_p4m1_5 : decode prog_4_method_1_code 5 = .ok (.iload_n 1, 1) := by decide +kernel
theorem d_p4m1_6 : decode prog_4_method_1_code 6 = .ok (.putfield 7, 3) := by decide +kernel
theorem d_p4m1_9 : decode prog_4_method_1_code 9 = .ok (.aload_n 0, 1) := by decide +kernel
theorem d_p4m1_10 : decode prog_4_method_1_code 10 = .ok (.aload_n 2, 1) := by decide +kernel
theorem d_p4m1_11 : decode prog_4_method_1_code 11 = .ok (.putfield 13, 3) := by decide +kernel
theorem d_p4m1_14 : decode prog_4_method_1_code 14 = .ok (.aload_n 0, 1) := by decide +kernel
theorem d_p4m1_15 : decode prog_4_method_1_code 15 = .ok (.iload_n 3, 1) := by decide +kernel
theorem d_p4m1_16 : decode prog_4_method_1_code 16 = .ok (.putfield 17, 3) := by decide +kernel
theorem d_p4m1_19 : decode prog_4_method_1_code 19 = .ok (.aload_n 0, 1) := by decide +kernel
theorem d_p4m1_20 : decode prog_4_method_1_code 20 = .ok (.aload 4, 2) := by decide +kernel
theorem d_p4m1_22 : decode prog_4_method_1_code 22 = .ok (.putfield 21, 3) := by decide +kernel
theorem d_p4m1_25 : decode prog_4_method_1_code 25 = .ok (.aload_n 0, 1) := by decide +kernel
theorem d_p4m1_26 : decode prog_4_method_1_code 26 = .ok (.aload 5, 2) := by decide +kernel
theorem d_p4m1_28 : decode prog_4_method_1_code 28 = .ok (.putfield 25, 3) := by decide +kernel
theorem d_p4m1_31 : decode prog_4_method_1_code 31 = .ok (.aload_n 0, 1) := by decide +kernel
theorem d_p4m1_32 : decode prog_4_method_1_code 32 = .ok (.aload 6, 2) := by decide +kernel
theorem d_p4m1_34 : decode prog_4_method_1_code 34 = .ok (.putfield 28, 3) := by decide +kernel
theorem d_p4m1_37 : decode prog_4_method_1_code 37 = .ok (.aload_n 0, 1) := by decide +kernel
theorem d_p4m1_38 : decode prog_4_method_1_code 38 = .ok (.iconst 1, 1) := by decide +kernel
theorem d_p4m1_39 : decode prog_4_method_1_code 39 = .ok (.iload_n 1, 1) := by decide +kernel
theorem d_p4m1_40 : decode prog_4_method_1_code 40 = .ok (.ishl, 1) := by decide +kernel
theorem d_p4m1_41 : decode prog_4_method_1_code 41 = .ok (.aload 4, 2) := by decide +kernel
theorem d_p4m1_43 : decode prog_4_method_1_code 43 = .ok (.invokestatic 31, 3) := by decide +kernel
theorem d_p4m1_46 : decode prog_4_method_1_code 46 = .ok (.ior, 1) := by decide +kernel
theorem d_p4m1_47 : decode prog_4_method_1_code 47 = .ok (.aload 5, 2) := by decide +kernel
theorem d_p4m1_49 : decode prog_4_method_1_code 49 = .ok (.invokestatic 31, 3) := by decide +kernel
theorem d_p4m1_52 : decode prog_4_method_1_code 52 = .ok (.ior, 1) := by decide +kernel
theorem d_p4m1_53 : decode prog_4_method_1_code 53 = .ok (.aload 6, 2) := by decide +kernel
theorem d_p4m1_55 : decode prog_4_method_1_code 55 = .ok (.invokestatic 31, 3) := by decide +kernel
theorem d_p4m1_58 : decode prog_4_method_1_code 58 = .ok (.ior, 1) := by decide +kernel
theorem d_p4m1_59 : decode prog_4_method_1_code 59 = .ok (.putfield 35, 3) := by decide +kernel
theorem d_p4m1_62 : decode prog_4_method_1_code 62 = .ok (.aload_n 0, 1) := by decide +kernel
theorem d_p4m1_63 : decode prog_4_method_1_code 63 = .ok (.aload_n 2, 1) := by decide +kernel
theorem d_p4m1_64 : decode prog_4_method_1_code 64 = .ok (.invokestatic 38, 3) := by decide +kernel
theorem d_p4m1_67 : decode prog_4_method_1_code 67 = .ok (.putfield 42, 3) := by decide +kernel
theorem d_p4m1_70 : decode prog_4_method_1_code 70 = .ok (.aload_n 0, 1) := by decide +kernel
theorem d_p4m1_71 : decode prog_4_method_1_code 71 = .ok (.aload 5, 2) := by decide +kernel
theorem d_p4m1_73 : decode prog_4_method_1_code 73 = .ok (.aload 6, 2) := by decide +kernel
theorem d_p4m1_75 : decode prog_4_method_1_code 75 = .ok (.invokestatic 45, 3) := by decide +kernel
theorem d_p4m1_78 : decode prog_4_method_1_code 78 = .ok (.putfield 49, 3) := by decide +kernel
theorem d_p4m1_81 : decode prog_4_method_1_code 81 = .ok (.return_, 1) := by decide +kernel
abbrev y_ClassRow_init : MethodName := ⟨"PolicyDesk$ClassRow", "<init>", "(ILjava/lang/String;ZLPolicyDesk$ClassRow;LPolicyDesk$ClassRow;LPolicyDesk$ClassRow;)V"⟩
theorem ok_ClassRow_init : pd_ok y_ClassRow_init prog_4_method_1_code 7 none 6 := ⟨mT_84, mT_7, by decide, by decide +kernel⟩
abbrev rm_ClassRow_init : Room := { frames := 10, cells := 29, slots := 423, locals := 237 }
set_option maxHeartbeats 4000000 in
set_option maxRecDepth 100000 in
theorem c_ClassRow_init (l : Launch) (G : pd_G) (h : pd_H) {A : Nat → Nat} {n : Nat} {R : Nat → pd_cr} {x m9 a : Nat} {cs : List Nat} {bi : Bool} {ab fi se : Option Nat} (hR : pd_Rows G h A n R) (hx0 : h x = some (9, .inr (2, [.int (nI 0), .null, .int (nI 0), .null, .null, .null, .null, .int (nI 0), .int (nI 0)]))) (hz_x : G.2.1 ≤ x) (hS : pd_Str h a cs) (hab : ∀ k, ab = some k → k < n) (hfi : ∀ k, fi = some k → k < n) (hse : ∀ k, se = some k → k < n) (hn13 : n ≤ 13) : pd_Mv l y_ClassRow_init prog_4_method_1_code 7 rm_ClassRow_init G h [.ref x, .int (nI m9), .ref a, .int (pd_b bi), va_rf (ab.map A), va_rf (fi.map A), va_rf (se.map A)] (fun h1 => pd_kx [7, 8, 9] h h1 ∧ pd_Row G h1 A x m9 9 (gr_row R m9 cs bi ab fi se)) := by
  refine pd_Mv.of (by decide) (by cases ab <;> cases fi <;> cases se <;> exact Nat.le_of_ble_eq_true rfl) ?_
  intro p e s m below meth c X hmn w ls hl
  have hx := X.1
  have hb := X.2.1
  have hl : lv_has ls 7 [(0, .ref x), (1, .int (nI m9)), (2, .ref a), (3, .int (pd_b bi)), (4, va_rf (ab.map A)), (5, va_rf (fi.map A)), (6, va_rf (se.map A))] := by simp only [lv_args, pd_cat] at hl; simpa [Value.category] using hl
  have hcw := hR.2.2
  have hAi := hR.2.1
  have hn14 := hcw.1
  refine lv_aload_n hx hb d_p4m1_0 rfl (lv_at hl 0 rfl) ?_
  refine W.objInit hx hb X.2.2.2.2.1 (X.2.2.2.2.2.1 _ mT_85) (X.2.2.2.2.2.1 _ mT_38) (X.2.2.2.2.2.1 _ mT_39) rfl (by rw [X.2.2.2.1]; exact hl.1) rfl d_p4m1_1 (by decide) (Nat.le_of_ble_eq_true rfl) ?_
  refine W.eq (g2 := F0 m 4 ls []) rfl ?_
  refine lv_aload_n hx hb d_p4m1_4 rfl (lv_at hl 0 rfl) ?_
  refine lv_iload_n hx hb d_p4m1_5 rfl (lv_at hl 1 rfl) ?_
  refine pd_putF (ty := .int) X w hx0 hz_x rfl 0 (by decide) mT_253 rfl rfl hmn rfl (by decide +kernel) rfl rfl (Nat.le_of_ble_eq_true rfl) d_p4m1_6 (fun H locs w => ?_)
  have w : pd_w G s H locs (pd_up h x (9, .inr (2, [.int (nI m9), .null, .int (nI 0), .null, .null, .null, .null, .int (nI 0), .int (nI 0)]))) := w
  obtain ⟨h1, u4⟩ : ∃ z, z = pd_up h x (9, .inr (2, [.int (nI m9), .null, .int (nI 0), .null, .null, .null, .null, .int (nI 0), .int (nI 0)])) := ⟨_, rfl⟩
  rw [← u4] at w
  have k2 : pd_kq x h h1 := by rw [u4]; exact pd_up_kq
  have f3 : h1 x = some (9, .inr (2, [.int (nI m9), .null, .int (nI 0), .null, .null, .null, .null, .int (nI 0), .int (nI 0)])) := by rw [u4]; exact pd_up_s _ _ _
  have f5 := hR.kx (pd_kq.kx k2 hx0) (show (0 : Nat) ∉ [9] by decide)
  have f6 := hS.kx (pd_kq.kx k2 hx0) (show (0 : Nat) ∉ [9] by decide)
  refine lv_aload_n hx hb d_p4m1_9 rfl (lv_at hl 0 rfl) ?_
  refine lv_aload_n hx hb d_p4m1_10 rfl (lv_at hl 2 rfl) ?_
  refine pd_putF (ty := (.object "java/lang/String")) X w f3 hz_x rfl 1 (by decide) mT_255 rfl rfl hmn rfl (by decide +kernel) rfl rfl (Nat.le_of_ble_eq_true rfl) d_p4m1_11 (fun H locs w => ?_)
  have w : pd_w G s H locs (pd_up h1 x (9, .inr (2, [.int (nI m9), .ref a, .int (nI 0), .null, .null, .null, .null, .int (nI 0), .int (nI 0)]))) := w
  obtain ⟨h7, u10⟩ : ∃ z, z = pd_up h1 x (9, .inr (2, [.int (nI m9), .ref a, .int (nI 0), .null, .null, .null, .null, .int (nI 0), .int (nI 0)])) := ⟨_, rfl⟩
  rw [← u10] at w
  have k8 : pd_kq x h1 h7 := by rw [u10]; exact pd_up_kq
  have f9 : h7 x = some (9, .inr (2, [.int (nI m9), .ref a, .int (nI 0), .null, .null, .null, .null, .int (nI 0), .int (nI 0)])) := by rw [u10]; exact pd_up_s _ _ _
  have f11 := f5.kx (pd_kq.kx k8 f3) (show (0 : Nat) ∉ [9] by decide)
  have f12 := f6.kx (pd_kq.kx k8 f3) (show (0 : Nat) ∉ [9] by decide)
  refine lv_aload_n hx hb d_p4m1_14 rfl (lv_at hl 0 rfl) ?_
  refine lv_iload_n hx hb d_p4m1_15 rfl (lv_at hl 3 rfl) ?_
  refine pd_putF (ty := .boolean) X w f9 hz_x rfl 2 (by decide) mT_259 rfl rfl hmn rfl (by decide +kernel) (by cases bi <;> decide) (by cases bi <;> decide) (Nat.le_of_ble_eq_true rfl) d_p4m1_16 (fun H locs w => ?_)
  have w : pd_w G s H locs (pd_up h7 x (9, .inr (2, [.int (nI m9), .ref a, .int (pd_b bi), .null, .null, .null, .null, .int (nI 0), .int (nI 0)]))) := w
  obtain ⟨h13, u16⟩ : ∃ z, z = pd_up h7 x (9, .inr (2, [.int (nI m9), .ref a, .int (pd_b bi), .null, .null, .null, .null, .int (nI 0), .int (nI 0)])) := ⟨_, rfl⟩
  rw [← u16] at w
  have k14 : pd_kq x h7 h13 := by rw [u16]; exact pd_up_kq
  have f15 : h13 x = some (9, .inr (2, [.int (nI m9), .ref a, .int (pd_b bi), .null, .null, .null, .null, .int (nI 0), .int (nI 0)])) := by rw [u16]; exact pd_up_s _ _ _
  have f17 := f11.kx (pd_kq.kx k14 f9) (show (0 : Nat) ∉ [9] by decide)
  have f18 := f12.kx (pd_kq.kx k14 f9) (show (0 : Nat) ∉ [9] by decide)
  refine lv_aload_n hx hb d_p4m1_19 rfl (lv_at hl 0 rfl) ?_
  refine pd_oload hx hb d_p4m1_20 (lv_at hl 4 rfl) ?_
  refine pd_putF (ty := (.object "PolicyDesk$ClassRow")) X w f15 hz_x rfl 3 (by decide) mT_261 rfl rfl hmn rfl (by decide +kernel) (by cases ab.map A <;> rfl) (by cases ab.map A <;> rfl) (Nat.le_of_ble_eq_true rfl) d_p4m1_22 (fun H locs w => ?_)
  have w : pd_w G s H locs (pd_up h13 x (9, .inr (2, [.int (nI m9), .ref a, .int (pd_b bi), va_rf (ab.map A), .null, .null, .null, .int (nI 0), .int (nI 0)]))) := w
  obtain ⟨h19, u22⟩ : ∃ z, z = pd_up h13 x (9, .inr (2, [.int (nI m9), .ref a, .int (pd_b bi), va_rf (ab.map A), .null, .null, .null, .int (nI 0), .int (nI 0)])) := ⟨_, rfl⟩
  rw [← u22] at w
  have k20 : pd_kq x h13 h19 := by rw [u22]; exact pd_up_kq
  have f21 : h19 x = some (9, .inr (2, [.int (nI m9), .ref a, .int (pd_b bi), va_rf (ab.map A), .null, .null, .null, .int (nI 0), .int (nI 0)])) := by rw [u22]; exact pd_up_s _ _ _
  have f23 := f17.kx (pd_kq.kx k20 f15) (show (0 : Nat) ∉ [9] by decide)
  have f24 := f18.kx (pd_kq.kx k20 f15) (show (0 : Nat) ∉ [9] by decide)
  refine lv_aload_n hx hb d_p4m1_25 rfl (lv_at hl 0 rfl) ?_
  refine pd_oload hx hb d_p4m1_26 (lv_at hl 5 rfl) ?_
  refine pd_putF (ty := (.object "PolicyDesk$ClassRow")) X w f21 hz_x rfl 4 (by decide) mT_264 rfl rfl hmn rfl (by decide +kernel) (by cases fi.map A <;> rfl) (by cases fi.map A <;> rfl) (Nat.le_of_ble_eq_true rfl) d_p4m1_28 (fun H locs w => ?_)
  have w : pd_w G s H locs (pd_up h19 x (9, .inr (2, [.int (nI m9), .ref a, .int (pd_b bi), va_rf (ab.map A), va_rf (fi.map A), .null, .null, .int (nI 0), .int (nI 0)]))) := w
  obtain ⟨h25, u28⟩ : ∃ z, z = pd_up h19 x (9, .inr (2, [.int (nI m9), .ref a, .int (pd_b bi), va_rf (ab.map A), va_rf (fi.map A), .null, .null, .int (nI 0), .int (nI 0)])) := ⟨_, rfl⟩
  rw [← u28] at w
  have k26 : pd_kq x h19 h25 := by rw [u28]; exact pd_up_kq
  have f27 : h25 x = some (9, .inr (2, [.int (nI m9), .ref a, .int (pd_b bi), va_rf (ab.map A), va_rf (fi.map A), .null, .null, .int (nI 0), .int (nI 0)])) := by rw [u28]; exact pd_up_s _ _ _
  have f29 := f23.kx (pd_kq.kx k26 f21) (show (0 : Nat) ∉ [9] by decide)
  have f30 := f24.kx (pd_kq.kx k26 f21) (show (0 : Nat) ∉ [9] by decide)
  refine lv_aload_n hx hb d_p4m1_31 rfl (lv_at hl 0 rfl) ?_
  refine pd_oload hx hb d_p4m1_32 (lv_at hl 6 rfl) ?_
  refine pd_putF (ty := (.object "PolicyDesk$ClassRow")) X w f27 hz_x rfl 5 (by decide) mT_266 rfl rfl hmn rfl (by decide +kernel) (by cases se.map A <;> rfl) (by cases se.map A <;> rfl) (Nat.le_of_ble_eq_true rfl) d_p4m1_34 (fun H locs w => ?_)
  have w : pd_w G s H locs (pd_up h25 x (9, .inr (2, [.int (nI m9), .ref a, .int (pd_b bi), va_rf (ab.map A), va_rf (fi.map A), va_rf (se.map A), .null, .int (nI 0), .int (nI 0)]))) := w
  obtain ⟨h31, u34⟩ : ∃ z, z = pd_up h25 x (9, .inr (2, [.int (nI m9), .ref a, .int (pd_b bi), va_rf (ab.map A), va_rf (fi.map A), va_rf (se.map A), .null, .int (nI 0), .int (nI 0)])) := ⟨_, rfl⟩
  rw [← u34] at w
  have k32 : pd_kq x h25 h31 := by rw [u34]; exact pd_up_kq
  have f33 : h31 x = some (9, .inr (2, [.int (nI m9), .ref a, .int (pd_b bi), va_rf (ab.map A), va_rf (fi.map A), va_rf (se.map A), .null, .int (nI 0), .int (nI 0)])) := by rw [u34]; exact pd_up_s _ _ _
  have f35 := f29.kx (pd_kq.kx k32 f27) (show (0 : Nat) ∉ [9] by decide)
  have f36 := f30.kx (pd_kq.kx k32 f27) (show (0 : Nat) ∉ [9] by decide)
  refine lv_aload_n hx hb d_p4m1_37 rfl (lv_at hl 0 rfl) ?_
  refine lv_iconst (v := nI 1) hx hb d_p4m1_38 (by decide) ?_
  refine lv_iload_n hx hb d_p4m1_39 rfl (lv_at hl 1 rfl) ?_
  refine lv_ishl hx hb d_p4m1_40 ?_
  refine pd_oload hx hb d_p4m1_41 (lv_at hl 4 rfl) ?_
  refine pd_cS (As := [va_rf (ab.map A)]) (rest := [.int ((nI 1) <<< ((nI m9) &&& 31)), .ref x]) X w (c_ClassRow_bitsOf l G h31 (by assumption) (by assumption)) ok_ClassRow_bitsOf mT_87 mT_86 ⟨by decide, by decide⟩ rfl hl.1 rfl (Nat.le_of_ble_eq_true rfl) d_p4m1_43 ⟨by decide, by decide⟩ (fun r37 h38 H locs hp39 w => ?_)
  refine W.widen (k := 0) (n := 0) (by decide) (by decide) ?_
  obtain ⟨e40, rfl⟩ := hp39
  refine lv_ior hx hb d_p4m1_46 ?_
  refine pd_oload hx hb d_p4m1_47 (lv_at hl 5 rfl) ?_
  refine pd_cS (As := [va_rf (fi.map A)]) (rest := [.int (((nI 1) <<< ((nI m9) &&& 31)) ||| r37), .ref x]) X w (c_ClassRow_bitsOf l G h31 (by assumption) (by assumption)) ok_ClassRow_bitsOf mT_87 mT_86 ⟨by decide, by decide⟩ rfl hl.1 rfl (Nat.le_of_ble_eq_true rfl) d_p4m1_49 ⟨by decide, by decide⟩ (fun r41 h42 H locs hp43 w => ?_)
  refine W.widen (k := 0) (n := 0) (by decide) (by decide) ?_
  obtain ⟨e44, rfl⟩ := hp43
  refine lv_ior hx hb d_p4m1_52 ?_
  refine pd_oload hx hb d_p4m1_53 (lv_at hl 6 rfl) ?_
  refine pd_cS (As := [va_rf (se.map A)]) (rest := [.int ((((nI 1) <<< ((nI m9) &&& 31)) ||| r37) ||| r41), .ref x]) X w (c_ClassRow_bitsOf l G h31 (by assumption) (by assumption)) ok_ClassRow_bitsOf mT_87 mT_86 ⟨by decide, by decide⟩ rfl hl.1 rfl (Nat.le_of_ble_eq_true rfl) d_p4m1_55 ⟨by decide, by decide⟩ (fun r45 h46 H locs hp47 w => ?_)
  refine W.widen (k := 0) (n := 0) (by decide) (by decide) ?_
  obtain ⟨e48, rfl⟩ := hp47
  refine lv_ior hx hb d_p4m1_58 ?_
  refine pd_putF (ty := .int) X w f33 hz_x rfl 7 (by decide) mT_270 rfl rfl hmn rfl (by decide +kernel) rfl rfl (Nat.le_of_ble_eq_true rfl) d_p4m1_59 (fun H locs w => ?_)
  have w : pd_w G s H locs (pd_up h31 x (9, .inr (2, [.int (nI m9), .ref a, .int (pd_b bi), va_rf (ab.map A), va_rf (fi.map A), va_rf (se.map A), .null, .int (((((nI 1) <<< ((nI m9) &&& 31)) ||| r37) ||| r41) ||| r45), .int (nI 0)]))) := w
  obtain ⟨h49, u52⟩ : ∃ z, z = pd_up h31 x (9, .inr (2, [.int (nI m9), .ref a, .int (pd_b bi), va_rf (ab.map A), va_rf (fi.map A), va_rf (se.map A), .null, .int (((((nI 1) <<< ((nI m9) &&& 31)) ||| r37) ||| r41) ||| r45), .int (nI 0)])) := ⟨_, rfl⟩
  rw [← u52] at w
  have k50 : pd_kq x h31 h49 := by rw [u52]; exact pd_up_kq
  have f51 : h49 x = some (9, .inr (2, [.int (nI m9), .ref a, .int (pd_b bi), va_rf (ab.map A), va_rf (fi.map A), va_rf (se.map A), .null, .int (((((nI 1) <<< ((nI m9) &&& 31)) ||| r37) ||| r41) ||| r45), .int (nI 0)])) := by rw [u52]; exact pd_up_s _ _ _
  have f53 := f35.kx (pd_kq.kx k50 f33) (show (0 : Nat) ∉ [9] by decide)
  have f54 := f36.kx (pd_kq.kx k50 f33) (show (0 : Nat) ∉ [9] by decide)
  refine lv_aload_n hx hb d_p4m1_62 rfl (lv_at hl 0 rfl) ?_
  refine lv_aload_n hx hb d_p4m1_63 rfl (lv_at hl 2 rfl) ?_
  refine pd_cS (As := [.ref a]) (rest := [.ref x]) X w (c_ClassRow_lastSlashOf l G h49 (by assumption)) ok_ClassRow_lastSlashOf mT_90 mT_89 ⟨by decide, by decide⟩ rfl hl.1 rfl (Nat.le_of_ble_eq_true rfl) d_p4m1_64 ⟨by decide, by decide⟩ (fun r55 h56 H locs hp57 w => ?_)
  refine W.widen (k := 0) (n := 0) (by decide) (by decide) ?_
  obtain ⟨e58, rfl⟩ := hp57
  refine pd_putF (ty := .int) X w f51 hz_x rfl 8 (by decide) mT_271 rfl rfl hmn rfl (by decide +kernel) rfl rfl (Nat.le_of_ble_eq_true rfl) d_p4m1_67 (fun H locs w => ?_)
  have w : pd_w G s H locs (pd_up h49 x (9, .inr (2, [.int (nI m9), .ref a, .int (pd_b bi), va_rf (ab.map A), va_rf (fi.map A), va_rf (se.map A), .null, .int (((((nI 1) <<< ((nI m9) &&& 31)) ||| r37) ||| r41) ||| r45), .int (pd_m r55)]))) := w
  obtain ⟨h59, u62⟩ : ∃ z, z = pd_up h49 x (9, .inr (2, [.int (nI m9), .ref a, .int (pd_b bi), va_rf (ab.map A), va_rf (fi.map A), va_rf (se.map A), .null, .int (((((nI 1) <<< ((nI m9) &&& 31)) ||| r37) ||| r41) ||| r45), .int (pd_m r55)])) := ⟨_, rfl⟩
  rw [← u62] at w
  have k60 : pd_kq x h49 h59 := by rw [u62]; exact pd_up_kq
  have f61 : h59 x = some (9, .inr (2, [.int (nI m9), .ref a, .int (pd_b bi), va_rf (ab.map A), va_rf (fi.map A), va_rf (se.map A), .null, .int (((((nI 1) <<< ((nI m9) &&& 31)) ||| r37) ||| r41) ||| r45), .int (pd_m r55)])) := by rw [u62]; exact pd_up_s _ _ _
  have f63 := f53.kx (pd_kq.kx k60 f51) (show (0 : Nat) ∉ [9] by decide)
  have f64 := f54.kx (pd_kq.kx k60 f51) (show (0 : Nat) ∉ [9] by decide)
  refine lv_aload_n hx hb d_p4m1_70 rfl (lv_at hl 0 rfl) ?_
  refine pd_oload hx hb d_p4m1_71 (lv_at hl 5 rfl) ?_
  refine pd_oload hx hb d_p4m1_73 (lv_at hl 6 rfl) ?_
  refine pd_cS (As := [va_rf (fi.map A), va_rf (se.map A)]) (rest := [.ref x]) X w (c_ClassRow_facesOf l G h59 (by assumption) (by assumption) (by assumption) (by omega)) ok_ClassRow_facesOf mT_140 mT_139 ⟨by decide, by decide⟩ rfl hl.1 rfl (Nat.le_of_ble_eq_true rfl) d_p4m1_75 ⟨by decide, by decide⟩ (fun r65 h66 H locs hp67 w => ?_)
  refine W.widen (k := 29) (n := 423) (by decide) (by decide) ?_
  obtain ⟨k68, f69⟩ := hp67
  have f70 := k68 _ _ f61 (show (9 : Nat) ∉ [7, 8] by decide)
  have f71 := f63.kx k68 (show (0 : Nat) ∉ [7, 8] by decide)
  have f72 := f64.kx k68 (show (0 : Nat) ∉ [7, 8] by decide)
  refine pd_putF (ty := (.object "java/util/ArrayList")) X w f70 hz_x rfl 6 (by decide) mT_268 rfl rfl hmn rfl (by decide +kernel) rfl rfl (Nat.le_of_ble_eq_true rfl) d_p4m1_78 (fun H locs w => ?_)
  have w : pd_w G s H locs (pd_up h66 x (9, .inr (2, [.int (nI m9), .ref a, .int (pd_b bi), va_rf (ab.map A), va_rf (fi.map A), va_rf (se.map A), .ref r65, .int (((((nI 1) <<< ((nI m9) &&& 31)) ||| r37) ||| r41) ||| r45), .int (pd_m r55)]))) := w
  obtain ⟨h73, u76⟩ : ∃ z, z = pd_up h66 x (9, .inr (2, [.int (nI m9), .ref a, .int (pd_b bi), va_rf (ab.map A), va_rf (fi.map A), va_rf (se.map A), .ref r65, .int (((((nI 1) <<< ((nI m9) &&& 31)) ||| r37) ||| r41) ||| r45), .int (pd_m r55)])) := ⟨_, rfl⟩
  rw [← u76] at w
  have k74 : pd_kq x h66 h73 := by rw [u76]; exact pd_up_kq
  have f75 : h73 x = some (9, .inr (2, [.int (nI m9), .ref a, .int (pd_b bi), va_rf (ab.map A), va_rf (fi.map A), va_rf (se.map A), .ref r65, .int (((((nI 1) <<< ((nI m9) &&& 31)) ||| r37) ||| r41) ||| r45), .int (pd_m r55)])) := by rw [u76]; exact pd_up_s _ _ _
  have f77 := f71.kx (pd_kq.kx k74 f70) (show (0 : Nat) ∉ [9] by decide)
  have f78 := f72.kx (pd_kq.kx k74 f70) (show (0 : Nat) ∉ [9] by decide)
  have f79 := f69.kx (pd_kq.kx k74 f70) (show (0 : Nat) ∉ [9] by decide) (show (0 : Nat) ∉ [9] by decide) (show (0 : Nat) ∉ [9] by decide)
  exact pd_vret X w ⟨pd_kx.mono (us := [7, 8, 9]) (pd_kx.tr (pd_kx.tr (pd_kx.mono (us := [9, 7, 8]) (pd_kx.tr (pd_kx.tr (pd_kx.tr (pd_kx.tr (pd_kx.tr (pd_kx.tr (pd_kx.tr (pd_kq.kx (k2) hx0) (pd_kq.kx (k8) f3)) (pd_kq.kx (k14) f9)) (pd_kq.kx (k20) f15)) (pd_kq.kx (k26) f21)) (pd_kq.kx (k32) f27)) (pd_kq.kx (k50) f33)) (pd_kq.kx (k60) f51)) (by simp)) (pd_kx.mono (us := [9, 7, 8]) (k68) (by simp))) (pd_kx.mono (us := [9, 7, 8]) (pd_kq.kx (k74) f70) (by simp))) (by simp), a, _, (by show h73 x = some (9, .inr (2, [.int (nI m9), .ref a, .int (pd_b bi), va_rf (ab.map A), va_rf (fi.map A), va_rf (se.map A), .ref r65, .int (gr_bits R m9 ab fi se), .int (pd_m (gr_sl cs))])); rw [show gr_bits R m9 ab fi se = _ from rfl]; unfold gr_bits; rw [← e40, ← e44, ← e48, ← e58]; exact f75), f78, f79⟩ (by decide) (by decide) d_p4m1_81
def gr_bel (R : Nat → pd_cr) (i j : Nat) : Bool := decide (((R i).2.2.2.2.2.1 >>> (nI j &&& 31)) &&& nI 1 = nI 1)
theorem d_p4m7_0 : decode prog_4_method_7_code 0 = .ok (.aload_n 0, 1) := by decide +kernel
theorem d_p4m7_1 : decode prog_4_method_7_code 1 = .ok (.getfield 35, 3) := by decide +kernel
theorem d_p4m7_4 : decode prog_4_method_7_code 4 = .ok (.aload_n 1, 1) := by decide +kernel
theorem d_p4m7_5 : decode prog_4_method_7_code 5 = .ok (.getfield 7, 3) := by decide +kernel
theorem d_p4m7_8 : decode prog_4_method_7_code 8 = .ok (.ishr, 1) := by decide +kernel
theorem d_p4m7_9 : decode prog_4_method_7_code 9 = .ok (.iconst 1, 1) := by decide +kernel
theorem d_p4m7_10 : decode prog_4_method_7_code 10 = .ok (.iand, 1) := by decide +kernel
theorem d_p4m7_11 : decode prog_4_method_7_code 11 = .ok (.iconst 1, 1) := by decide +kernel
theorem d_p4m7_12 : decode prog_4_method_7_code 12 = .ok (.if_icmp .ne 7, 3) := by decide +kernel
theorem d_p4m7_15 : decode prog_4_method_7_code 15 = .ok (.iconst 1, 1) := by decide +kernel
theorem d_p4m7_16 : decode prog_4_method_7_code 16 = .ok (.goto 4, 3) := by decide +kernel
theorem d_p4m7_19 : decode prog_4_method_7_code 19 = .ok (.iconst 0, 1) := by decide +kernel
theorem d_p4m7_20 : decode prog_4_method_7_code 20 = .ok (.ireturn, 1) := by decide +kernel
abbrev y_ClassRow_isBelow : MethodName := ⟨"PolicyDesk$ClassRow", "isBelow", "(LPolicyDesk$ClassRow;)Z"⟩
theorem ok_ClassRow_isBelow : pd_ok y_ClassRow_isBelow prog_4_method_7_code 2 (some .boolean) 1 := ⟨mT_991, mT_7, by decide, by decide +kernel⟩
abbrev rm_ClassRow_isBelow : Room := { frames := 0, cells := 0, slots := 0, locals := 0 }
set_option maxHeartbeats 4000000 in
set_option maxRecDepth 100000 in
theorem c_ClassRow_isBelow (l : Launch) (G : pd_G) (h : pd_H) {A : Nat → Nat} {n : Nat} {R : Nat → pd_cr} {i j : Nat} (hR : pd_Rows G h A n R) (hin : i < n) (hjn : j < n) : pd_M l y_ClassRow_isBelow prog_4_method_7_code 2 (some .boolean) rm_ClassRow_isBelow G h [.ref (A i), .ref (A j)] pd_vb (fun r h1 => r = gr_bel R i j ∧ h = h1) := by
  refine pd_M.of (by decide) (Nat.le_of_ble_eq_true rfl) ?_
  intro p e s m below meth c X hmn w ls hl
  have hx := X.1
  have hb := X.2.1
  have hl : lv_has ls 2 [(0, .ref (A i)), (1, .ref (A j))] := hl
  have hcw := hR.2.2
  have hAi := hR.2.1
  have hn14 := hcw.1
  refine lv_aload_n hx hb d_p4m7_0 rfl (lv_at hl 0 rfl) ?_
  obtain ⟨nm1, fx2, f3, f4, f5⟩ := hR.1 i (by omega)
  obtain ⟨v6, g7, f8, f9, gf10, gc11, gl12⟩ := id f4
  obtain ⟨v13, cap14, g15, f16, z17, z18, z19, z20, z21⟩ := id f5
  refine pd_get X w f3 rfl 7 (by decide) mT_270 rfl rfl d_p4m7_1 ?_
  refine lv_aload_n hx hb d_p4m7_4 rfl (lv_at hl 1 rfl) ?_
  obtain ⟨nm22, fx23, f24, f25, f26⟩ := hR.1 j (by omega)
  obtain ⟨v27, g28, f29, f30, gf31, gc32, gl33⟩ := id f25
  obtain ⟨v34, cap35, g36, f37, z38, z39, z40, z41, z42⟩ := id f26
  refine pd_get X w f24 rfl 0 (by decide) mT_253 rfl rfl d_p4m7_5 ?_
  refine lv_ishr hx hb d_p4m7_8 ?_
  refine lv_iconst (v := nI 1) hx hb d_p4m7_9 (by decide) ?_
  refine lv_iand hx hb d_p4m7_10 ?_
  refine lv_iconst (v := nI 1) hx hb d_p4m7_11 (by decide) ?_
  refine lv_icmp_ne (tgt := 19) hx hb d_p4m7_12 (by decide) (fun q43 => ?_) (fun q43 => ?_)
  · -- taken: 19
    refine lv_iconst (v := nI 0) hx hb d_p4m7_19 (by decide) ?_
    refine W.eq (g2 := F0 m 20 ls [.int (pd_b false)]) rfl ?_
    exact pd_zret (v := false) X w ⟨(decide_eq_false q43).symm, rfl⟩ (by decide) (by decide) d_p4m7_20
  · -- not taken: 15
    refine lv_iconst (v := nI 1) hx hb d_p4m7_15 (by decide) ?_
    refine lv_goto (tgt := 20) hx hb d_p4m7_16 (by decide) ?_
    refine W.eq (g2 := F0 m 20 ls [.int (pd_b true)]) rfl ?_
    exact pd_zret (v := true) X w ⟨(decide_eq_true q43).symm, rfl⟩ (by decide) (by decide) d_p4m7_20
