/-! members: owner, name, shape, marks -/
abbrev pd_mr : Type := Nat × List Nat × List Nat × Nat
def gr_ism (sh : List Nat) : Bool := decide (tx_ix sh 40 = some 0)
def pd_MRow (h : pd_H) (A : Nat → Nat) (b i t : Nat) (r : pd_mr) : Prop := ∃ (nm sh : Nat), h b = some (t, .inr (5, [.int (nI i), .ref (A r.1), .ref nm, .ref sh, .int (pd_b (gr_ism r.2.2.1)), .int (nI r.2.2.2)])) ∧ pd_Str h nm r.2.1 ∧ pd_Str h sh r.2.2.1
theorem pd_MRow.kx {ts : List Nat} {h h' : pd_H} {A : Nat → Nat} {b i t : Nat} {r : pd_mr} (q : pd_MRow h A b i t r) (k : pd_kx ts h h') (n1 : t ∉ ts) (n0 : 0 ∉ ts) : pd_MRow h' A b i t r := by
  obtain ⟨nm, sh, h1, h2, h3⟩ := q
  exact ⟨nm, sh, k _ _ h1 n1, h2.kx k n0, h3.kx k n0⟩
theorem pd_MRow.tag {G : pd_G} {s : State} {H : Heap} {locs : List Loc} {h : pd_H} {A : Nat → Nat} {a i : Nat} {r : pd_mr} (w : pd_w G s H locs h) (hz : ∀ (x : Nat) (d : pd_C), G.2.2.1 x = some d → x < G.2.1) (ha : G.2.1 ≤ a) (q : pd_MRow h A a i 9 r) : ∃ h', pd_w G s H locs h' ∧ pd_kx [9] h h' ∧ pd_MRow h' A a i 0 r := by
  obtain ⟨nm, fx, h1, h2, h3⟩ := q
  have k1 := pd_up_kx h1 (c := (0, .inr (5, [.int (nI i), .ref (A r.1), .ref nm, .ref fx, .int (pd_b (gr_ism r.2.2.1)), .int (nI r.2.2.2)])))
  have n0 : (0 : Nat) ∉ [9] := by decide
  exact ⟨_, w.tag hz 0 h1 ha, k1, nm, fx, pd_up_s _ _ _, h2.kx k1 n0, h3.kx k1 n0⟩
def pd_MRows (h : pd_H) (A : Nat → Nat) (n : Nat) (B : Nat → Nat) (k : Nat) (M : Nat → pd_mr) : Prop := ∀ i, i < k → pd_MRow h A (B i) i 0 (M i) ∧ (M i).1 < n ∧ (M i).2.2.2 < 4
theorem pd_MRows.kx {ts : List Nat} {h h' : pd_H} {A B : Nat → Nat} {n k : Nat} {M : Nat → pd_mr} (q : pd_MRows h A n B k M) (kx : pd_kx ts h h') (n0 : 0 ∉ ts) : pd_MRows h' A n B k M := fun i hi => ⟨(q i hi).1.kx kx n0 n0, (q i hi).2⟩
def pd_Mems (G : pd_G) (h : pd_H) (x : Nat) (A : Nat → Nat) (n : Nat) (B : Nat → Nat) (k : Nat) (M : Nat → pd_mr) : Prop := ∃ (ar : Nat) (f : Nat → Option Nat), h x = some (11, .inr (6, [.ref ar, .int (nI k)])) ∧ h ar = some (12, .inl (.object "PolicyDesk$MemberRow", 24, .inr (.inr (.inr (.inr f))))) ∧ (∀ i, i < k → f i = some (B i)) ∧ G.2.1 ≤ x ∧ G.2.1 ≤ ar ∧ k ≤ 24 ∧ pd_MRows h A n B k M
theorem pd_Mems.kx {G : pd_G} {ts : List Nat} {h h' : pd_H} {x n k : Nat} {A B : Nat → Nat} {M : Nat → pd_mr} (q : pd_Mems G h x A n B k M) (kx : pd_kx ts h h') (n1 : 11 ∉ ts) (n2 : 12 ∉ ts) (n0 : 0 ∉ ts) : pd_Mems G h' x A n B k M := by
  obtain ⟨ar, f, h1, h2, h3, h4, h5, h6, h7⟩ := q
  exact ⟨ar, f, kx _ _ h1 n1, kx _ _ h2 n2, h3, h4, h5, h6, h7.kx kx n0⟩
/-- other addresses of classes that are the same below n -/
theorem pd_Mems.ag {G : pd_G} {h : pd_H} {x n n2 k : Nat} {A A2 B : Nat → Nat} {M : Nat → pd_mr} (q : pd_Mems G h x A n B k M) (ha : ∀ i, i < n → A2 i = A i) (hn : n ≤ n2) : pd_Mems G h x A2 n2 B k M := by
  obtain ⟨ar, f, h1, h2, h3, h4, h5, h6, h7⟩ := q
  refine ⟨ar, f, h1, h2, h3, h4, h5, h6, fun i hi => ?_⟩
  obtain ⟨⟨nm, sh, z1, z2⟩, z3, z4⟩ := h7 i hi
  exact ⟨⟨nm, sh, (by rw [ha _ z3]; exact z1), z2⟩, by omega, z4⟩
def gr_cnt (M : Nat → pd_mr) (j : Nat) : Nat → Nat
  | 0 => 0
  | i + 1 => gr_cnt M j i + if (M i).1 = j then 1 else 0
theorem gr_cnt_le (M : Nat → pd_mr) (j : Nat) : ∀ i, gr_cnt M j i ≤ i
  | 0 => Nat.le_refl _
  | i + 1 => by
    have := gr_cnt_le M j i
    unfold gr_cnt
    split <;> omega
def gr_fm (M : Nat → pd_mr) (k j : Nat) (cs : List Nat) : Option Nat := (List.range k).find? (fun i => decide ((M i).1 = j) && gr_ism (M i).2.2.1 && decide ((M i).2.1 = cs))
def gr_decl (M : Nat → pd_mr) (k j : Nat) (cs ds : List Nat) : Option Nat := (List.range k).find? (fun i => decide ((M i).1 = j) && decide ((M i).2.1 = cs) && decide ((M i).2.2.1 = ds))
def gr_dif (M : Nat → pd_mr) (k : Nat) (fc : List Nat) (cs ds : List Nat) : Option Nat := fc.findSome? (fun j => gr_decl M k j cs ds)
/-- the answer of an add of a member, the rows behind it -/
def gr_madd (k : Nat) (M : Nat → pd_mr) (r : pd_mr) : Int32 × Nat × (Nat → pd_mr) := if k < 24 then (nI k, k + 1, pd_fu M k r) else (-5, k, M)
theorem gr_madd_y {k : Nat} {M : Nat → pd_mr} {r : pd_mr} (h : k < 24) : gr_madd k M r = (nI k, k + 1, pd_fu M k r) := if_pos h
theorem gr_madd_n {k : Nat} {M : Nat → pd_mr} {r : pd_mr} (h : ¬ k < 24) : gr_madd k M r = (-5, k, M) := if_neg h
theorem d_p8m1_0 : decode prog_8_method_1_code 0 = .ok (.aload_n 0, 1) := by decide +kernel
theorem d_p8m1_1 : decode prog_8_method_1_code 1 = .ok (.invokespecial 1, 3) := by decide +kernel
theorem d_p8m1_4 : decode prog_8_method_1_code 4 = .ok (.aload_n 0, 1) := by decide +kernel
theorem d_p8m1_5 : decode prog_8_method_1_code 5 = .ok (.iload_n 1, 1) := by decide +kernel
theorem d_p8m1_6 : decode prog_8_method_1_code 6 = .ok (.putfield 7, 3) := by decide +kernel
theorem d_p8m1_9 : decode prog_8_method_1_code 9 = .ok (.aload_n 0, 1) := by decide +kernel
theorem d_p8m1_10 : decode prog_8_method_1_code 10 = .ok (.aload_n 2, 1) := by decide +kernel
theorem d_p8m1_11 : decode prog_8_method_1_code 11 = .ok (.putfield 13, 3) := by decide +kernel
theorem d_p8m1_14 : decode prog_8_method_1_code 14 = .ok (.aload_n 0, 1) := by decide +kernel
theorem d_p8m1_15 : decode prog_8_method_1_code 15 = .ok (.aload_n 3, 1) := by decide +kernel
theorem d_p8m1_16 : decode prog_8_method_1_code 16 = .ok (.putfield 17, 3) := by decide +kernel
theorem d_p8m1_19 : decode prog_8_method_1_code 19 = .ok (.aload_n 0, 1) := by decide +kernel
theorem d_p8m1_20 : decode prog_8_method_1_code 20 = .ok (.aload 4, 2) := by decide +kernel
theorem d_p8m1_22 : decode prog_8_method_1_code 22 = .ok (.putfield 21, 3) := by decide +kernel
theorem d_p8m1_25 : decode prog_8_method_1_code 25 = .ok (.aload_n 0, 1) := by decide +kernel
theorem d_p8m1_26 : decode prog_8_method_1_code 26 = .ok (.aload 4, 2) := by decide +kernel
theorem d_p8m1_28 : decode prog_8_method_1_code 28 = .ok (.bipush 40, 2) := by decide +kernel
theorem d_p8m1_30 : decode prog_8_method_1_code 30 = .ok (.invokevirtual 24, 3) := by decide +kernel
theorem d_p8m1_33 : decode prog_8_method_1_code 33 = .ok (.ifCond .ne 7, 3) := by decide +kernel
theorem d_p8m1_36 : decode prog_8_method_1_code 36 = .ok (.iconst 1, 1) := by decide +kernel
theorem d_p8m1_37 : decode prog_8_method_1_code 37 = .ok (.goto 4, 3) := by decide +kernel
theorem d_p8m1_40 : decode prog_8_method_1_code 40 = .ok (.iconst 0, 1) := by decide +kernel
theorem d_p8m1_41 : decode prog_8_method_1_code 41 = .ok (.putfield 30, 3) := by decide +kernel
theorem d_p8m1_44 : decode prog_8_method_1_code 44 = .ok (.aload_n 0, 1) := by decide +kernel
theorem d_p8m1_45 : decode prog_8_method_1_code 45 = .ok (.iload 5, 2) := by decide +kernel
theorem d_p8m1_47 : decode prog_8_method_1_code 47 = .ok (.putfield 34, 3) := by decide +kernel
theorem d_p8m1_50 : decode prog_8_method_1_code 50 = .ok (.return_, 1) := by decide +kernel
abbrev y_MemberRow_init : MethodName := ⟨"PolicyDesk$MemberRow", "<init>", "(ILPolicyDesk$ClassRow;Ljava/lang/String;Ljava/lang/String;I)V"⟩
theorem ok_MemberRow_init : pd_ok y_MemberRow_init prog_8_method_1_code 6 none 5 := ⟨mT_808, mT_29, by decide, by decide +kernel⟩
abbrev rm_MemberRow_init : Room := { frames := 4, cells := 0, slots := 0, locals := 91 }
set_option maxHeartbeats 4000000 in
set_option maxRecDepth 100000 in
theorem c_MemberRow_init (l : Launch) (G : pd_G) (h : pd_H) {x m9 a a2 j mk : Nat} {A : Nat → Nat} {cs ds : List Nat} (hx0 : h x = some (9, .inr (5, [.int (nI 0), .null, .null, .null, .int (nI 0), .int (nI 0)]))) (hz_x : G.2.1 ≤ x) (hS : pd_Str h a cs) (hS2 : pd_Str h a2 ds) : pd_Mv l y_MemberRow_init prog_8_method_1_code 6 rm_MemberRow_init G h [.ref x, .int (nI m9), .ref (A j), .ref a, .ref a2, .int (nI mk)] (fun h1 => pd_kx [9] h h1 ∧ pd_MRow h1 A x m9 9 (j, cs, ds, mk)) := by
  refine pd_Mv.of (by decide) (Nat.le_of_ble_eq_true rfl) ?_
  intro p e s m below meth c X hmn w ls hl
  have hx := X.1
  have hb := X.2.1
  have hl : lv_has ls 6 [(0, .ref x), (1, .int (nI m9)), (2, .ref (A j)), (3, .ref a), (4, .ref a2), (5, .int (nI mk))] := hl
  obtain ⟨v2, f2, hw1, hw2, hwf, hwc, hwl⟩ := id hS2
  refine lv_aload_n hx hb d_p8m1_0 rfl (lv_at hl 0 rfl) ?_
  refine W.objInit hx hb X.2.2.2.2.1 (X.2.2.2.2.2.1 _ mT_809) (X.2.2.2.2.2.1 _ mT_38) (X.2.2.2.2.2.1 _ mT_39) rfl (by rw [X.2.2.2.1]; exact hl.1) rfl d_p8m1_1 (by decide) (Nat.le_of_ble_eq_true rfl) ?_
  refine W.eq (g2 := F0 m 4 ls []) rfl ?_
  refine lv_aload_n hx hb d_p8m1_4 rfl (lv_at hl 0 rfl) ?_
  refine lv_iload_n hx hb d_p8m1_5 rfl (lv_at hl 1 rfl) ?_
  refine pd_putF (ty := .int) X w hx0 hz_x rfl 0 (by decide) mT_811 rfl rfl hmn rfl (by decide +kernel) rfl rfl (Nat.le_of_ble_eq_true rfl) d_p8m1_6 (fun H locs w => ?_)
  have w : pd_w G s H locs (pd_up h x (9, .inr (5, [.int (nI m9), .null, .null, .null, .int (nI 0), .int (nI 0)]))) := w
  obtain ⟨h1, u4⟩ : ∃ z, z = pd_up h x (9, .inr (5, [.int (nI m9), .null, .null, .null, .int (nI 0), .int (nI 0)])) := ⟨_, rfl⟩
  rw [← u4] at w
  have k2 : pd_kq x h h1 := by rw [u4]; exact pd_up_kq
  have f3 : h1 x = some (9, .inr (5, [.int (nI m9), .null, .null, .null, .int (nI 0), .int (nI 0)])) := by rw [u4]; exact pd_up_s _ _ _
  have f5 := k2 _ _ (pd_ne hw1 hx0 (by simp)) hw1
  have f6 := k2 _ _ (pd_ne hw2 hx0 (by simp)) hw2
  have f7 := hS.kx (pd_kq.kx k2 hx0) (show (0 : Nat) ∉ [9] by decide)
  have f8 : pd_Str h1 a2 ds := ⟨_, _, f5, f6, hwf, hwc, hwl⟩
  refine lv_aload_n hx hb d_p8m1_9 rfl (lv_at hl 0 rfl) ?_
  refine lv_aload_n hx hb d_p8m1_10 rfl (lv_at hl 2 rfl) ?_
  refine pd_putF (ty := (.object "PolicyDesk$ClassRow")) X w f3 hz_x rfl 1 (by decide) mT_813 rfl rfl hmn rfl (by decide +kernel) rfl rfl (Nat.le_of_ble_eq_true rfl) d_p8m1_11 (fun H locs w => ?_)
  have w : pd_w G s H locs (pd_up h1 x (9, .inr (5, [.int (nI m9), .ref (A j), .null, .null, .int (nI 0), .int (nI 0)]))) := w
  obtain ⟨h9, u12⟩ : ∃ z, z = pd_up h1 x (9, .inr (5, [.int (nI m9), .ref (A j), .null, .null, .int (nI 0), .int (nI 0)])) := ⟨_, rfl⟩
  rw [← u12] at w
  have k10 : pd_kq x h1 h9 := by rw [u12]; exact pd_up_kq
  have f11 : h9 x = some (9, .inr (5, [.int (nI m9), .ref (A j), .null, .null, .int (nI 0), .int (nI 0)])) := by rw [u12]; exact pd_up_s _ _ _
  have f13 := k10 _ _ (pd_ne f5 f3 (by simp)) f5
  have f14 := k10 _ _ (pd_ne f6 f3 (by simp)) f6
  have f15 := f7.kx (pd_kq.kx k10 f3) (show (0 : Nat) ∉ [9] by decide)
  have f16 : pd_Str h9 a2 ds := ⟨_, _, f13, f14, hwf, hwc, hwl⟩
  refine lv_aload_n hx hb d_p8m1_14 rfl (lv_at hl 0 rfl) ?_
  refine lv_aload_n hx hb d_p8m1_15 rfl (lv_at hl 3 rfl) ?_
  refine pd_putF (ty := (.object "java/lang/String")) X w f11 hz_x rfl 2 (by decide) mT_816 rfl rfl hmn rfl (by decide +kernel) rfl rfl (Nat.le_of_ble_eq_true rfl) d_p8m1_16 (fun H locs w => ?_)
  have w : pd_w G s H locs (pd_up h9 x (9, .inr (5, [.int (nI m9), .ref (A j), .ref a, .null, .int (nI 0), .int (nI 0)]))) := w
  obtain ⟨h17, u20⟩ : ∃ z, z = pd_up h9 x (9, .inr (5, [.int (nI m9), .ref (A j), .ref a, .null, .int (nI 0), .int (nI 0)])) := ⟨_, rfl⟩
  rw [← u20] at w
  have k18 : pd_kq x h9 h17 := by rw [u20]; exact pd_up_kq
  have f19 : h17 x = some (9, .inr (5, [.int (nI m9), .ref (A j), .ref a, .null, .int (nI 0), .int (nI 0)])) := by rw [u20]; exact pd_up_s _ _ _
  have f21 := k18 _ _ (pd_ne f13 f11 (by simp)) f13
  have f22 := k18 _ _ (pd_ne f14 f11 (by simp)) f14
  have f23 := f15.kx (pd_kq.kx k18 f11) (show (0 : Nat) ∉ [9] by decide)
  have f24 : pd_Str h17 a2 ds := ⟨_, _, f21, f22, hwf, hwc, hwl⟩
  refine lv_aload_n hx hb d_p8m1_19 rfl (lv_at hl 0 rfl) ?_
  refine lv_aload hx hb d_p8m1_20 (lv_at hl 4 rfl) ?_
  refine pd_putF (ty := (.object "java/lang/String")) X w f19 hz_x rfl 3 (by decide) mT_820 rfl rfl hmn rfl (by decide +kernel) rfl rfl (Nat.le_of_ble_eq_true rfl) d_p8m1_22 (fun H locs w => ?_)
  have w : pd_w G s H locs (pd_up h17 x (9, .inr (5, [.int (nI m9), .ref (A j), .ref a, .ref a2, .int (nI 0), .int (nI 0)]))) := w
  obtain ⟨h25, u28⟩ : ∃ z, z = pd_up h17 x (9, .inr (5, [.int (nI m9), .ref (A j), .ref a, .ref a2, .int (nI 0), .int (nI 0)])) := ⟨_, rfl⟩
  rw [← u28] at w
  have k26 : pd_kq x h17 h25 := by rw [u28]; exact pd_up_kq
  have f27 : h25 x = some (9, .inr (5, [.int (nI m9), .ref (A j), .ref a, .ref a2, .int (nI 0), .int (nI 0)])) := by rw [u28]; exact pd_up_s _ _ _
  have f29 := k26 _ _ (pd_ne f21 f19 (by simp)) f21
  have f30 := k26 _ _ (pd_ne f22 f19 (by simp)) f22
  have f31 := f23.kx (pd_kq.kx k26 f19) (show (0 : Nat) ∉ [9] by decide)
  have f32 : pd_Str h25 a2 ds := ⟨_, _, f29, f30, hwf, hwc, hwl⟩
  refine lv_aload_n hx hb d_p8m1_25 rfl (lv_at hl 0 rfl) ?_
  refine lv_aload hx hb d_p8m1_26 (lv_at hl 4 rfl) ?_
  refine lv_bipush (v := nI 40) hx hb d_p8m1_28 (by decide) ?_
  refine pd_cV (a := a2) (As := [.int (nI 40)]) (rest := [.ref x]) X w f29 rfl (c_String_indexOf l G h25 (by assumption) (by omega)) ok_String_indexOf ⟨mT_652, mT_653⟩ mT_810 ⟨by decide, by decide⟩ rfl hl.1 rfl (Nat.le_of_ble_eq_true rfl) d_p8m1_30 ⟨by decide, by decide⟩ (fun r33 h34 H locs hp35 w => ?_)
  refine W.widen (k := 0) (n := 0) (by decide) (by decide) ?_
  obtain ⟨e36, rfl⟩ := hp35
  rcases q38 : r33 with _ | j37
  · -- None
    rw [q38] at e36
    refine W.eq (g2 := F0 m 33 ls [.int (-1), .ref x]) rfl ?_
    refine lv_if_ne (tgt := 40) hx hb d_p8m1_33 (by decide) (fun _ => ?_) (fun q => absurd q (by decide))
    refine lv_iconst (v := nI 0) hx hb d_p8m1_40 (by decide) ?_
    refine pd_putF (ty := .boolean) X w f27 hz_x rfl 4 (by decide) mT_822 rfl rfl hmn rfl (by decide +kernel) (by decide) (by decide) (Nat.le_of_ble_eq_true rfl) d_p8m1_41 (fun H locs w => ?_)
    have w : pd_w G s H locs (pd_up h25 x (9, .inr (5, [.int (nI m9), .ref (A j), .ref a, .ref a2, .int (nI 0), .int (nI 0)]))) := w
    obtain ⟨h40, u43⟩ : ∃ z, z = pd_up h25 x (9, .inr (5, [.int (nI m9), .ref (A j), .ref a, .ref a2, .int (nI 0), .int (nI 0)])) := ⟨_, rfl⟩
    rw [← u43] at w
    have k41 : pd_kq x h25 h40 := by rw [u43]; exact pd_up_kq
    have f42 : h40 x = some (9, .inr (5, [.int (nI m9), .ref (A j), .ref a, .ref a2, .int (nI 0), .int (nI 0)])) := by rw [u43]; exact pd_up_s _ _ _
    have f44 := k41 _ _ (pd_ne f29 f27 (by simp)) f29
    have f45 := k41 _ _ (pd_ne f30 f27 (by simp)) f30
    have f46 := f31.kx (pd_kq.kx k41 f27) (show (0 : Nat) ∉ [9] by decide)
    have f47 : pd_Str h40 a2 ds := ⟨_, _, f44, f45, hwf, hwc, hwl⟩
    refine lv_aload_n hx hb d_p8m1_44 rfl (lv_at hl 0 rfl) ?_
    refine lv_iload hx hb d_p8m1_45 (lv_at hl 5 rfl) ?_
    refine pd_putF (ty := .int) X w f42 hz_x rfl 5 (by decide) mT_825 rfl rfl hmn rfl (by decide +kernel) rfl rfl (Nat.le_of_ble_eq_true rfl) d_p8m1_47 (fun H locs w => ?_)
    have w : pd_w G s H locs (pd_up h40 x (9, .inr (5, [.int (nI m9), .ref (A j), .ref a, .ref a2, .int (nI 0), .int (nI mk)]))) := w
    obtain ⟨h48, u51⟩ : ∃ z, z = pd_up h40 x (9, .inr (5, [.int (nI m9), .ref (A j), .ref a, .ref a2, .int (nI 0), .int (nI mk)])) := ⟨_, rfl⟩
    rw [← u51] at w
    have k49 : pd_kq x h40 h48 := by rw [u51]; exact pd_up_kq
    have f50 : h48 x = some (9, .inr (5, [.int (nI m9), .ref (A j), .ref a, .ref a2, .int (nI 0), .int (nI mk)])) := by rw [u51]; exact pd_up_s _ _ _
    have f52 := k49 _ _ (pd_ne f44 f42 (by simp)) f44
    have f53 := k49 _ _ (pd_ne f45 f42 (by simp)) f45
    have f54 := f46.kx (pd_kq.kx k49 f42) (show (0 : Nat) ∉ [9] by decide)
    have f55 : pd_Str h48 a2 ds := ⟨_, _, f52, f53, hwf, hwc, hwl⟩
    exact pd_vret X w ⟨pd_kx.tr (pd_kx.tr (pd_kx.tr (pd_kx.tr (pd_kx.tr (pd_kq.kx (k2) hx0) (pd_kq.kx (k10) f3)) (pd_kq.kx (k18) f11)) (pd_kq.kx (k26) f19)) (pd_kq.kx (k41) f27)) (pd_kq.kx (k49) f42), a, a2, (by show h48 x = some (9, .inr (5, [.int (nI m9), .ref (A j), .ref a, .ref a2, .int (pd_b (gr_ism ds)), .int (nI mk)])); rw [show gr_ism ds = false by unfold gr_ism; rw [← e36]; simp]; exact f50), f54, f55⟩ (by decide) (by decide) d_p8m1_50
  · -- j37
    rw [q38] at e36
    have j37lt := tx_ix_lt e36.symm
    refine W.eq (g2 := F0 m 33 ls [.int (nI j37), .ref x]) rfl ?_
    refine pd_zne (tgt := 40) hx hb d_p8m1_33 (by decide) (by omega) (fun q56 => ?_) (fun q56 => ?_)
    · -- taken: 40
      refine lv_iconst (v := nI 0) hx hb d_p8m1_40 (by decide) ?_
      refine pd_putF (ty := .boolean) X w f27 hz_x rfl 4 (by decide) mT_822 rfl rfl hmn rfl (by decide +kernel) (by decide) (by decide) (Nat.le_of_ble_eq_true rfl) d_p8m1_41 (fun H locs w => ?_)
      have w : pd_w G s H locs (pd_up h25 x (9, .inr (5, [.int (nI m9), .ref (A j), .ref a, .ref a2, .int (nI 0), .int (nI 0)]))) := w
      obtain ⟨h57, u60⟩ : ∃ z, z = pd_up h25 x (9, .inr (5, [.int (nI m9), .ref (A j), .ref a, .ref a2, .int (nI 0), .int (nI 0)])) := ⟨_, rfl⟩
      rw [← u60] at w
      have k58 : pd_kq x h25 h57 := by rw [u60]; exact pd_up_kq
      have f59 : h57 x = some (9, .inr (5, [.int (nI m9), .ref (A j), .ref a, .ref a2, .int (nI 0), .int (nI 0)])) := by rw [u60]; exact pd_up_s _ _ _
      have f61 := k58 _ _ (pd_ne f29 f27 (by simp)) f29
      have f62 := k58 _ _ (pd_ne f30 f27 (by simp)) f30
      have f63 := f31.kx (pd_kq.kx k58 f27) (show (0 : Nat) ∉ [9] by decide)
      have f64 : pd_Str h57 a2 ds := ⟨_, _, f61, f62, hwf, hwc, hwl⟩
      refine lv_aload_n hx hb d_p8m1_44 rfl (lv_at hl 0 rfl) ?_
      refine lv_iload hx hb d_p8m1_45 (lv_at hl 5 rfl) ?_
      refine pd_putF (ty := .int) X w f59 hz_x rfl 5 (by decide) mT_825 rfl rfl hmn rfl (by decide +kernel) rfl rfl (Nat.le_of_ble_eq_true rfl) d_p8m1_47 (fun H locs w => ?_)
      have w : pd_w G s H locs (pd_up h57 x (9, .inr (5, [.int (nI m9), .ref (A j), .ref a, .ref a2, .int (nI 0), .int (nI mk)]))) := w
      obtain ⟨h65, u68⟩ : ∃ z, z = pd_up h57 x (9, .inr (5, [.int (nI m9), .ref (A j), .ref a, .ref a2, .int (nI 0), .int (nI mk)])) := ⟨_, rfl⟩
      rw [← u68] at w
      have k66 : pd_kq x h57 h65 := by rw [u68]; exact pd_up_kq
      have f67 : h65 x = some (9, .inr (5, [.int (nI m9), .ref (A j), .ref a, .ref a2, .int (nI 0), .int (nI mk)])) := by rw [u68]; exact pd_up_s _ _ _
      have f69 := k66 _ _ (pd_ne f61 f59 (by simp)) f61
      have f70 := k66 _ _ (pd_ne f62 f59 (by simp)) f62
      have f71 := f63.kx (pd_kq.kx k66 f59) (show (0 : Nat) ∉ [9] by decide)
      have f72 : pd_Str h65 a2 ds := ⟨_, _, f69, f70, hwf, hwc, hwl⟩
      exact pd_vret X w ⟨pd_kx.tr (pd_kx.tr (pd_kx.tr (pd_kx.tr (pd_kx.tr (pd_kq.kx (k2) hx0) (pd_kq.kx (k10) f3)) (pd_kq.kx (k18) f11)) (pd_kq.kx (k26) f19)) (pd_kq.kx (k58) f27)) (pd_kq.kx (k66) f59), a, a2, (by show h65 x = some (9, .inr (5, [.int (nI m9), .ref (A j), .ref a, .ref a2, .int (pd_b (gr_ism ds)), .int (nI mk)])); rw [show gr_ism ds = false by unfold gr_ism; rw [← e36]; exact decide_eq_false (fun z => q56 (Option.some.inj z))]; exact f67), f71, f72⟩ (by decide) (by decide) d_p8m1_50
    · -- not taken: 36
      refine lv_iconst (v := nI 1) hx hb d_p8m1_36 (by decide) ?_
      refine lv_goto (tgt := 41) hx hb d_p8m1_37 (by decide) ?_
      refine pd_putF (ty := .boolean) X w f27 hz_x rfl 4 (by decide) mT_822 rfl rfl hmn rfl (by decide +kernel) (by decide) (by decide) (Nat.le_of_ble_eq_true rfl) d_p8m1_41 (fun H locs w => ?_)
      have w : pd_w G s H locs (pd_up h25 x (9, .inr (5, [.int (nI m9), .ref (A j), .ref a, .ref a2, .int (nI 1), .int (nI 0)]))) := w
      obtain ⟨h73, u76⟩ : ∃ z, z = pd_up h25 x (9, .inr (5, [.int (nI m9), .ref (A j), .ref a, .ref a2, .int (nI 1), .int (nI 0)])) := ⟨_, rfl⟩
      rw [← u76] at w
      have k74 : pd_kq x h25 h73 := by rw [u76]; exact pd_up_kq
      have f75 : h73 x = some (9, .inr (5, [.int (nI m9), .ref (A j), .ref a, .ref a2, .int (nI 1), .int (nI 0)])) := by rw [u76]; exact pd_up_s _ _ _
      have f77 := k74 _ _ (pd_ne f29 f27 (by simp)) f29
      have f78 := k74 _ _ (pd_ne f30 f27 (by simp)) f30
      have f79 := f31.kx (pd_kq.kx k74 f27) (show (0 : Nat) ∉ [9] by decide)
      have f80 : pd_Str h73 a2 ds := ⟨_, _, f77, f78, hwf, hwc, hwl⟩
      refine lv_aload_n hx hb d_p8m1_44 rfl (lv_at hl 0 rfl) ?_
      refine lv_iload hx hb d_p8m1_45 (lv_at hl 5 rfl) ?_
      refine pd_putF (ty := .int) X w f75 hz_x rfl 5 (by decide) mT_825 rfl rfl hmn rfl (by decide +kernel) rfl rfl (Nat.le_of_ble_eq_true rfl) d_p8m1_47 (fun H locs w => ?_)
      have w : pd_w G s H locs (pd_up h73 x (9, .inr (5, [.int (nI m9), .ref (A j), .ref a, .ref a2, .int (nI 1), .int (nI mk)]))) := w
      obtain ⟨h81, u84⟩ : ∃ z, z = pd_up h73 x (9, .inr (5, [.int (nI m9), .ref (A j), .ref a, .ref a2, .int (nI 1), .int (nI mk)])) := ⟨_, rfl⟩
      rw [← u84] at w
      have k82 : pd_kq x h73 h81 := by rw [u84]; exact pd_up_kq
      have f83 : h81 x = some (9, .inr (5, [.int (nI m9), .ref (A j), .ref a, .ref a2, .int (nI 1), .int (nI mk)])) := by rw [u84]; exact pd_up_s _ _ _
      have f85 := k82 _ _ (pd_ne f77 f75 (by simp)) f77
      have f86 := k82 _ _ (pd_ne f78 f75 (by simp)) f78
      have f87 := f79.kx (pd_kq.kx k82 f75) (show (0 : Nat) ∉ [9] by decide)
      have f88 : pd_Str h81 a2 ds := ⟨_, _, f85, f86, hwf, hwc, hwl⟩
      exact pd_vret X w ⟨pd_kx.tr (pd_kx.tr (pd_kx.tr (pd_kx.tr (pd_kx.tr (pd_kq.kx (k2) hx0) (pd_kq.kx (k10) f3)) (pd_kq.kx (k18) f11)) (pd_kq.kx (k26) f19)) (pd_kq.kx (k74) f27)) (pd_kq.kx (k82) f75), a, a2, (by show h81 x = some (9, .inr (5, [.int (nI m9), .ref (A j), .ref a, .ref a2, .int (pd_b (gr_ism ds)), .int (nI mk)])); rw [show gr_ism ds = true by unfold gr_ism; rw [← e36]; exact decide_eq_true (by rw [q56])]; exact f83), f87, f88⟩ (by decide) (by decide) d_p8m1_50
theorem d_p9m2_0 : decode prog_9_method_2_code 0 = .ok (.iload_n 1, 1) := by decide +kernel
theorem d_p9m2_1 : decode prog_9_method_2_code 1 = .ok (.ifCond .lt 11, 3) := by decide +kernel
theorem d_p9m2_4 : decode prog_9_method_2_code 4 = .ok (.iload_n 1, 1) := by decide +kernel
theorem d_p9m2_5 : decode prog_9_method_2_code 5 = .ok (.aload_n 0, 1) := by decide +kernel
theorem d_p9m2_6 : decode prog_9_method_2_code 6 = .ok (.getfield 17, 3) := by decide +kernel
theorem d_p9m2_9 : decode prog_9_method_2_code 9 = .ok (.if_icmp .lt 7, 3) := by decide +kernel
theorem d_p9m2_12 : decode prog_9_method_2_code 12 = .ok (.aconst_null, 1) := by decide +kernel
theorem d_p9m2_13 : decode prog_9_method_2_code 13 = .ok (.goto 9, 3) := by decide +kernel
theorem d_p9m2_16 : decode prog_9_method_2_code 16 = .ok (.aload_n 0, 1) := by decide +kernel
theorem d_p9m2_17 : decode prog_9_method_2_code 17 = .ok (.getfield 13, 3) := by decide +kernel
theorem d_p9m2_20 : decode prog_9_method_2_code 20 = .ok (.iload_n 1, 1) := by decide +kernel
theorem d_p9m2_21 : decode prog_9_method_2_code 21 = .ok (.aaload, 1) := by decide +kernel
theorem d_p9m2_22 : decode prog_9_method_2_code 22 = .ok (.areturn, 1) := by decide +kernel
abbrev y_Members_at : MethodName := ⟨"PolicyDesk$Members", "at", "(I)LPolicyDesk$MemberRow;"⟩
theorem ok_Members_at : pd_ok y_Members_at prog_9_method_2_code 2 (some (.object "PolicyDesk$MemberRow")) 1 := ⟨mT_1101, mT_18, by decide, by decide +kernel⟩
abbrev rm_Members_at : Room := { frames := 0, cells := 0, slots := 0, locals := 0 }
set_option maxHeartbeats 4000000 in
set_option maxRecDepth 100000 in
theorem c_Members_at (l : Launch) (G : pd_G) (h : pd_H) {x : Nat} {A : Nat → Nat} {n : Nat} {R : Nat → pd_cr} {B : Nat → Nat} {k : Nat} {M : Nat → pd_mr} {c0 : Int32} (hM : pd_Mems G h x A n B k M) (hR : pd_Rows G h A n R) : pd_M l y_Members_at prog_9_method_2_code 2 (some (.object "PolicyDesk$MemberRow")) rm_Members_at G h [.ref x, .int c0] va_rf (fun r h1 => r = (pd_ix k c0).map B ∧ h = h1) := by
  refine pd_M.of (by decide) (Nat.le_of_ble_eq_true rfl) ?_
  intro p e s m below meth c X hmn w ls hl
  have hx := X.1
  have hb := X.2.1
  have hl : lv_has ls 2 [(0, .ref x), (1, .int c0)] := hl
  obtain ⟨ar, f, hx0, har, hfA, hz_x, hz_ar, hk24, hMR⟩ := id hM
  have hcw := hR.2.2
  have hAi := hR.2.1
  have hn14 := hcw.1
  refine lv_iload_n hx hb d_p9m2_0 rfl (lv_at hl 1 rfl) ?_
  refine lv_if_lt (tgt := 12) hx hb d_p9m2_1 (by decide) (fun q1 => ?_) (fun q1 => ?_)
  · -- taken: 12
    refine lv_null hx hb d_p9m2_12 ?_
    refine lv_goto (tgt := 22) hx hb d_p9m2_13 (by decide) ?_
    refine W.eq (g2 := F0 m 22 ls [va_rf none]) rfl ?_
    exact pd_oret (v := none) X (Or.inl ⟨_, rfl⟩) w ⟨by unfold pd_ix; rw [if_pos q1]; rfl, rfl⟩ (by decide) (by decide) d_p9m2_22
  · -- not taken: 4
    refine lv_iload_n hx hb d_p9m2_4 rfl (lv_at hl 1 rfl) ?_
    refine lv_aload_n hx hb d_p9m2_5 rfl (lv_at hl 0 rfl) ?_
    refine pd_get X w hx0 rfl 1 (by decide) mT_318 rfl rfl d_p9m2_6 ?_
    refine lv_icmp_lt (tgt := 16) hx hb d_p9m2_9 (by decide) (fun q2 => ?_) (fun q2 => ?_)
    · -- taken: 16
      refine lv_aload_n hx hb d_p9m2_16 rfl (lv_at hl 0 rfl) ?_
      refine pd_get X w hx0 rfl 0 (by decide) mT_317 rfl rfl d_p9m2_17 ?_
      refine lv_iload_n hx hb d_p9m2_20 rfl (lv_at hl 1 rfl) ?_
      have hlt := pd_ix_lt q1 q2 (by omega)
      refine pd_top (v' := .int (nI c0.toNatClampNeg)) (by rw [pd_nn_i q1]) ?_
      refine pd_aald X w har rfl (by omega) (by omega) d_p9m2_21 ?_
      exact pd_oret (v := (f c0.toNatClampNeg)) X (Or.inl ⟨_, rfl⟩) w ⟨by unfold pd_ix; rw [if_neg q1, if_pos q2, hfA _ hlt]; rfl, rfl⟩ (by decide) (by decide) d_p9m2_22
    · -- not taken: 12
      refine lv_null hx hb d_p9m2_12 ?_
      refine lv_goto (tgt := 22) hx hb d_p9m2_13 (by decide) ?_
      refine W.eq (g2 := F0 m 22 ls [va_rf none]) rfl ?_
      exact pd_oret (v := none) X (Or.inl ⟨_, rfl⟩) w ⟨by unfold pd_ix; rw [if_neg q1, if_neg q2]; rfl, rfl⟩ (by decide) (by decide) d_p9m2_22
theorem d_p9m4_0 : decode prog_9_method_4_code 0 = .ok (.iconst 0, 1) := by decide +kernel
theorem d_p9m4_1 : decode prog_9_method_4_code 1 = .ok (.istore_n 2, 1) := by decide +kernel
theorem d_p9m4_2 : decode prog_9_method_4_code 2 = .ok (.iconst 0, 1) := by decide +kernel
theorem d_p9m4_3 : decode prog_9_method_4_code 3 = .ok (.istore_n 3, 1) := by decide +kernel
theorem d_p9m4_4 : decode prog_9_method_4_code 4 = .ok (.iload_n 3, 1) := by decide +kernel
theorem d_p9m4_5 : decode prog_9_method_4_code 5 = .ok (.aload_n 0, 1) := by decide +kernel
theorem d_p9m4_6 : decode prog_9_method_4_code 6 = .ok (.getfield 17, 3) := by decide +kernel
theorem d_p9m4_9 : decode prog_9_method_4_code 9 = .ok (.if_icmp .ge 30, 3) := by decide +kernel
theorem d_p9m4_12 : decode prog_9_method_4_code 12 = .ok (.iload_n 2, 1) := by decide +kernel
theorem d_p9m4_13 : decode prog_9_method_4_code 13 = .ok (.aload_n 0, 1) := by decide +kernel
theorem d_p9m4_14 : decode prog_9_method_4_code 14 = .ok (.getfield 13, 3) := by decide +kernel
theorem d_p9m4_17 : decode prog_9_method_4_code 17 = .ok (.iload_n 3, 1) := by decide +kernel
theorem d_p9m4_18 : decode prog_9_method_4_code 18 = .ok (.aaload, 1) := by decide +kernel
theorem d_p9m4_19 : decode prog_9_method_4_code 19 = .ok (.getfield 24, 3) := by decide +kernel
theorem d_p9m4_22 : decode prog_9_method_4_code 22 = .ok (.aload_n 1, 1) := by decide +kernel
theorem d_p9m4_23 : decode prog_9_method_4_code 23 = .ok (.if_acmp .ne 7, 3) := by decide +kernel
theorem d_p9m4_26 : decode prog_9_method_4_code 26 = .ok (.iconst 1, 1) := by decide +kernel
theorem d_p9m4_27 : decode prog_9_method_4_code 27 = .ok (.goto 4, 3) := by decide +kernel
theorem d_p9m4_30 : decode prog_9_method_4_code 30 = .ok (.iconst 0, 1) := by decide +kernel
theorem d_p9m4_31 : decode prog_9_method_4_code 31 = .ok (.iadd, 1) := by decide +kernel
theorem d_p9m4_32 : decode prog_9_method_4_code 32 = .ok (.istore_n 2, 1) := by decide +kernel
theorem d_p9m4_33 : decode prog_9_method_4_code 33 = .ok (.iinc 3 1, 3) := by decide +kernel
theorem d_p9m4_36 : decode prog_9_method_4_code 36 = .ok (.goto (-32), 3) := by decide +kernel
theorem d_p9m4_39 : decode prog_9_method_4_code 39 = .ok (.iload_n 2, 1) := by decide +kernel
theorem d_p9m4_40 : decode prog_9_method_4_code 40 = .ok (.ireturn, 1) := by decide +kernel
abbrev y_Members_ownedBy : MethodName := ⟨"PolicyDesk$Members", "ownedBy", "(LPolicyDesk$ClassRow;)I"⟩
theorem ok_Members_ownedBy : pd_ok y_Members_ownedBy prog_9_method_4_code 4 (some .int) 1 := ⟨mT_1092, mT_18, by decide, by decide +kernel⟩
abbrev rm_Members_ownedBy : Room := { frames := 0, cells := 0, slots := 0, locals := 0 }
set_option maxHeartbeats 4000000 in
set_option maxRecDepth 100000 in
theorem lp_Members_ownedBy_4 (l : Launch) (G : pd_G) (h : pd_H) {x : Nat} {A : Nat → Nat} {n : Nat} {R : Nat → pd_cr} {B : Nat → Nat} {k : Nat} {M : Nat → pd_mr} {j : Nat} (hM : pd_Mems G h x A n B k M) (hR : pd_Rows G h A n R) (hjn : j < n) {p : Program} {e : Env} {s : State} {m : MethodId} {below : List Frame} {meth : Method} {c : Code} (X : pd_B p s m [.ref x, .ref (A j)].toArray meth c G y_Members_ownedBy.cls prog_9_method_4_code 4 (some .int)) (hmn : meth.name = y_Members_ownedBy.name) :
    ∀ (kk9 : Nat) (i : Nat) (t : Nat), (i ≤ k) → (gr_cnt M j i = t) → k - i < kk9 → ∀ (H : Heap) (locs : List Loc), pd_w G s H locs h → ∀ ls : Array Slot, lv_has ls 4 [(3, .int (nI i)), (2, .int (nI t)), (0, .ref x), (1, .ref (A j))] → W p l e rm_Members_ownedBy s m [.ref x, .ref (A j)].toArray below meth c H locs 0 0 (MQ below (pd_Q G pd_vn (fun r h1 => r = gr_cnt M j k ∧ h = h1)) [.ref x, .ref (A j)].toArray s rm_Members_ownedBy.cells rm_Members_ownedBy.slots (fun q => G.2.1 ≤ q)) (F0 m 4 ls []) := by
  have hx := X.1
  have hb := X.2.1
  obtain ⟨ar, f, hx0, har, hfA, hz_x, hz_ar, hk24, hMR⟩ := id hM
  have hcw := hR.2.2
  have hAi := hR.2.1
  have hn14 := hcw.1
  intro kk9
  induction kk9 with
  | zero => intros; omega
  | succ kk9 ih =>
    intro i t hi hv hmu H locs w ls hl
    have htl : t ≤ i := by rw [← hv]; exact gr_cnt_le M j i
    refine lv_iload_n hx hb d_p9m4_4 rfl (lv_at hl 0 rfl) ?_
    refine lv_aload_n hx hb d_p9m4_5 rfl (lv_at hl 2 rfl) ?_
    refine pd_get X w hx0 rfl 1 (by decide) mT_318 rfl rfl d_p9m4_6 ?_
    refine pd_jge (tgt := 39) hx hb d_p9m4_9 (by decide) (by omega) (by omega) (fun q1 => ?_) (fun q1 => ?_)
    · -- taken: 39
      refine lv_iload_n hx hb d_p9m4_39 rfl (lv_at hl 1 rfl) ?_
      exact pd_nret (v := t) X w ⟨by rw [← hv, show i = k by omega], rfl⟩ (by decide) (by decide) d_p9m4_40
    · -- not taken: 12
      refine lv_iload_n hx hb d_p9m4_12 rfl (lv_at hl 1 rfl) ?_
      refine lv_aload_n hx hb d_p9m4_13 rfl (lv_at hl 2 rfl) ?_
      refine pd_get X w hx0 rfl 0 (by decide) mT_317 rfl rfl d_p9m4_14 ?_
      refine lv_iload_n hx hb d_p9m4_17 rfl (lv_at hl 0 rfl) ?_
      refine pd_aald X w har rfl (by omega) (by omega) d_p9m4_18 ?_
      refine pd_top (v' := .ref (B i)) (by rw [hfA i (by omega)]; rfl) ?_
      obtain ⟨⟨nm2, sh3, f4, f5, f6⟩, z7, z8⟩ := hMR i (by omega)
      obtain ⟨v9, g10, f11, f12, gf13, gc14, gl15⟩ := id f5
      obtain ⟨v16, g17, f18, f19, gf20, gc21, gl22⟩ := id f6
      refine pd_get X w f4 rfl 1 (by decide) mT_814 rfl rfl d_p9m4_19 ?_
      refine lv_aload_n hx hb d_p9m4_22 rfl (lv_at hl 3 rfl) ?_
      refine lv_acmp_ne (rx := (some (A (M i).1))) (ry := (some (A j))) (tgt := 30) hx hb d_p9m4_23 (by decide) (fun q23 => ?_) (fun q23 => ?_)
      · -- taken: 30
        refine lv_iconst (v := nI 0) hx hb d_p9m4_30 (by decide) ?_
        refine pd_iadd hx hb d_p9m4_31 ?_
        refine lv_istore_n (lv' := [(2, .int (nI (t + 0))), (3, .int (nI i)), (0, .ref x), (1, .ref (A j))]) hx hb d_p9m4_32 rfl hl (by decide) rfl (fun ls hl => ?_)
        refine pd_iinc (k := 1) (d := 1) (lv' := [(3, .int (nI (i + 1))), (2, .int (nI (t + 0))), (0, .ref x), (1, .ref (A j))]) hx hb d_p9m4_33 (by decide) hl rfl (by decide) rfl (fun ls hl => ?_)
        refine lv_goto (tgt := 4) hx hb d_p9m4_36 (by decide) ?_
        exact ih (i + 1) (t + 0) (by omega) (by show gr_cnt M j (i + 1) = _; unfold gr_cnt; rw [hv, if_neg (fun e9 => q23 (by rw [e9]))]) (by omega) _ _ w ls (lv_sub hl [0, 1, 2, 3] rfl)
      · -- not taken: 26
        refine lv_iconst (v := nI 1) hx hb d_p9m4_26 (by decide) ?_
        refine lv_goto (tgt := 31) hx hb d_p9m4_27 (by decide) ?_
        refine pd_iadd hx hb d_p9m4_31 ?_
        refine lv_istore_n (lv' := [(2, .int (nI (t + 1))), (3, .int (nI i)), (0, .ref x), (1, .ref (A j))]) hx hb d_p9m4_32 rfl hl (by decide) rfl (fun ls hl => ?_)
        refine pd_iinc (k := 1) (d := 1) (lv' := [(3, .int (nI (i + 1))), (2, .int (nI (t + 1))), (0, .ref x), (1, .ref (A j))]) hx hb d_p9m4_33 (by decide) hl rfl (by decide) rfl (fun ls hl => ?_)
        refine lv_goto (tgt := 4) hx hb d_p9m4_36 (by decide) ?_
        exact ih (i + 1) (t + 1) (by omega) (by show gr_cnt M j (i + 1) = _; unfold gr_cnt; rw [hv, if_pos (hAi _ _ z7 hjn (Option.some.inj q23))]) (by omega) _ _ w ls (lv_sub hl [0, 1, 2, 3] rfl)
set_option maxHeartbeats 4000000 in
set_option maxRecDepth 100000 in
theorem c_Members_ownedBy (l : Launch) (G : pd_G) (h : pd_H) {x : Nat} {A : Nat → Nat} {n : Nat} {R : Nat → pd_cr} {B : Nat → Nat} {k : Nat} {M : Nat → pd_mr} {j : Nat} (hM : pd_Mems G h x A n B k M) (hR : pd_Rows G h A n R) (hjn : j < n) : pd_M l y_Members_ownedBy prog_9_method_4_code 4 (some .int) rm_Members_ownedBy G h [.ref x, .ref (A j)] pd_vn (fun r h1 => r = gr_cnt M j k ∧ h = h1) := by
  refine pd_M.of (by decide) (Nat.le_of_ble_eq_true rfl) ?_
  intro p e s m below meth c X hmn w ls hl
  have hx := X.1
  have hb := X.2.1
  have hl : lv_has ls 4 [(0, .ref x), (1, .ref (A j))] := hl
  obtain ⟨ar, f, hx0, har, hfA, hz_x, hz_ar, hk24, hMR⟩ := id hM
  have hcw := hR.2.2
  have hAi := hR.2.1
  have hn14 := hcw.1
  refine lv_iconst (v := nI 0) hx hb d_p9m4_0 (by decide) ?_
  refine lv_istore_n (lv' := [(2, .int (nI 0)), (0, .ref x), (1, .ref (A j))]) hx hb d_p9m4_1 rfl hl (by decide) rfl (fun ls hl => ?_)
  refine lv_iconst (v := nI 0) hx hb d_p9m4_2 (by decide) ?_
  refine lv_istore_n (lv' := [(3, .int (nI 0)), (2, .int (nI 0)), (0, .ref x), (1, .ref (A j))]) hx hb d_p9m4_3 rfl hl (by decide) rfl (fun ls hl => ?_)
  exact lp_Members_ownedBy_4 l G h hM hR hjn X hmn (k + 1) 0 0 (by omega) (rfl) (by omega) _ _ w ls (lv_sub hl [0, 1, 2, 3] rfl)
