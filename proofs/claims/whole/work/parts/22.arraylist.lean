/-! ArrayList -/
theorem pd_M.mono {α : Type} {mk : α → Value} {l : Launch} {y : MethodName} {b : ByteArray} {maxL : Nat} {ret : Option FieldType} {rm : Room} {G : pd_G} {h : pd_H} {As : List Value} {post post' : α → pd_H → Prop} (hm : ∀ r h', post r h' → post' r h') (q : pd_M l y b maxL ret rm G h As mk post) : pd_M l y b maxL ret rm G h As mk post' := by
  intro p e q1 q2 q3 s m args below q4 q5 q6 q7
  obtain ⟨n, o, a1, a2, a3, ⟨⟨r, h', e1, e2, e3⟩, hF⟩, L⟩ := q p e q1 q2 q3 s m args below q4 q5 q6 q7
  exact ⟨n, o, a1, a2, a3, ⟨⟨r, h', e1, hm r h' e2, e3⟩, hF⟩, L⟩
theorem pd_Mv.mono {l : Launch} {y : MethodName} {b : ByteArray} {maxL : Nat} {rm : Room} {G : pd_G} {h : pd_H} {As : List Value} {post post' : pd_H → Prop} (hm : ∀ h', post h' → post' h') (q : pd_Mv l y b maxL rm G h As post) : pd_Mv l y b maxL rm G h As post' := by
  intro p e q1 q2 q3 s m args below q4 q5 q6 q7
  obtain ⟨n, o, a1, a2, a3, ⟨⟨h', e1, e2, e3⟩, hF⟩, L⟩ := q p e q1 q2 q3 s m args below q4 q5 q6 q7
  exact ⟨n, o, a1, a2, a3, ⟨⟨h', e1, hm h' e2, e3⟩, hF⟩, L⟩
def pd_AL (G : pd_G) (h : pd_H) (x t1 t2 : Nat) (xs : List Nat) : Prop := ∃ (v cap : Nat) (f : Nat → Option Nat), h x = some (t1, .inr (13, [.ref v, .int (nI xs.length), .int (nI xs.length)])) ∧ ((cap = 0 ∧ v = G.2.2.2 0) ∨ ((cap = 10 ∨ cap = 15) ∧ G.2.1 ≤ v ∧ h v = some (t2, .inl (.object "java/lang/Object", cap, .inr (.inr (.inr (.inr f))))))) ∧ xs.length ≤ cap ∧ (∀ j, j < xs.length → f j = some (xs.getD j 0)) ∧ (∀ y ∈ xs, ∃ fs, h y = some (0, .inr (2, fs))) ∧ G.2.1 ≤ x
theorem pd_AL.kx {G : pd_G} {ts : List Nat} {h h' : pd_H} {x t1 t2 : Nat} {xs : List Nat} (q : pd_AL G h x t1 t2 xs) (k : pd_kx ts h h') (n1 : t1 ∉ ts) (n2 : t2 ∉ ts) (n0 : 0 ∉ ts) : pd_AL G h' x t1 t2 xs := by
  obtain ⟨v, cap, f, h1, h2, h3, h4, h5, h6⟩ := q
  refine ⟨v, cap, f, k _ _ h1 n1, ?_, h3, h4, (fun y hy => by obtain ⟨fs, hf⟩ := h5 y hy; exact ⟨fs, k _ _ hf n0⟩), h6⟩
  rcases h2 with h2 | ⟨z1, z2, z3⟩
  · exact Or.inl h2
  · exact Or.inr ⟨z1, z2, k _ _ z3 n2⟩
theorem d_p29m1_0 : decode prog_29_method_1_code 0 = .ok (.aload_n 0, 1) := by decide +kernel
theorem d_p29m1_1 : decode prog_29_method_1_code 1 = .ok (.invokespecial 1, 3) := by decide +kernel
theorem d_p29m1_4 : decode prog_29_method_1_code 4 = .ok (.return_, 1) := by decide +kernel
abbrev y_AbstractCollection_init : MethodName := ⟨"java/util/AbstractCollection", "<init>", "()V"⟩
theorem ok_AbstractCollection_init : pd_ok y_AbstractCollection_init prog_29_method_1_code 1 none 0 := ⟨mT_152, mT_10, by decide, by decide +kernel⟩
abbrev rm_AbstractCollection_init : Room := { frames := 1, cells := 0, slots := 0, locals := 20 }
set_option maxHeartbeats 4000000 in
set_option maxRecDepth 100000 in
theorem c_AbstractCollection_init (l : Launch) (G : pd_G) (h : pd_H) {x : Nat} : pd_Mv l y_AbstractCollection_init prog_29_method_1_code 1 rm_AbstractCollection_init G h [.ref x] (fun h1 => h = h1) := by
  refine pd_Mv.of (by decide) (Nat.le_of_ble_eq_true rfl) ?_
  intro p e s m below meth c X hmn w ls hl
  have hx := X.1
  have hb := X.2.1
  have hl : lv_has ls 1 [(0, .ref x)] := hl
  refine lv_aload_n hx hb d_p29m1_0 rfl (lv_at hl 0 rfl) ?_
  refine W.objInit hx hb X.2.2.2.2.1 (X.2.2.2.2.2.1 _ mT_153) (X.2.2.2.2.2.1 _ mT_38) (X.2.2.2.2.2.1 _ mT_39) rfl (by rw [X.2.2.2.1]; exact hl.1) rfl d_p29m1_1 (by decide) (Nat.le_of_ble_eq_true rfl) ?_
  refine W.eq (g2 := F0 m 4 ls []) rfl ?_
  exact pd_vret X w rfl (by decide) (by decide) d_p29m1_4
theorem d_p30m1_0 : decode prog_30_method_1_code 0 = .ok (.aload_n 0, 1) := by decide +kernel
theorem d_p30m1_1 : decode prog_30_method_1_code 1 = .ok (.invokespecial 1, 3) := by decide +kernel
theorem d_p30m1_4 : decode prog_30_method_1_code 4 = .ok (.aload_n 0, 1) := by decide +kernel
theorem d_p30m1_5 : decode prog_30_method_1_code 5 = .ok (.iconst 0, 1) := by decide +kernel
theorem d_p30m1_6 : decode prog_30_method_1_code 6 = .ok (.putfield 7, 3) := by decide +kernel
theorem d_p30m1_9 : decode prog_30_method_1_code 9 = .ok (.return_, 1) := by decide +kernel
abbrev y_AbstractList_init : MethodName := ⟨"java/util/AbstractList", "<init>", "()V"⟩
theorem ok_AbstractList_init : pd_ok y_AbstractList_init prog_30_method_1_code 1 none 0 := ⟨mT_149, mT_11, by decide, by decide +kernel⟩
abbrev rm_AbstractList_init : Room := { frames := 2, cells := 0, slots := 0, locals := 40 }
set_option maxHeartbeats 4000000 in
set_option maxRecDepth 100000 in
theorem c_AbstractList_init (l : Launch) (G : pd_G) (h : pd_H) {x tg : Nat} (hx0 : h x = some (tg, .inr (13, [.null, .int (nI 0), .int (nI 0)]))) (hz_x : G.2.1 ≤ x) : pd_Mv l y_AbstractList_init prog_30_method_1_code 1 rm_AbstractList_init G h [.ref x] (fun h1 => pd_kq x h h1 ∧ h1 x = some (tg, .inr (13, [.null, .int (nI 0), .int (nI 0)]))) := by
  refine pd_Mv.of (by decide) (Nat.le_of_ble_eq_true rfl) ?_
  intro p e s m below meth c X hmn w ls hl
  have hx := X.1
  have hb := X.2.1
  have hl : lv_has ls 1 [(0, .ref x)] := hl
  refine lv_aload_n hx hb d_p30m1_0 rfl (lv_at hl 0 rfl) ?_
  refine pd_cI (a := x) (As := []) (rest := []) X w (c_AbstractCollection_init l G h) ok_AbstractCollection_init rfl mT_151 mT_150 ⟨by decide, by decide⟩ rfl hl.1 rfl (Nat.le_of_ble_eq_true rfl) d_p30m1_1 ⟨by decide, by decide⟩ (fun h2 H locs hp3 w => ?_)
  refine W.widen (k := 0) (n := 0) (by decide) (by decide) ?_
  subst hp3
  refine lv_aload_n hx hb d_p30m1_4 rfl (lv_at hl 0 rfl) ?_
  refine lv_iconst (v := nI 0) hx hb d_p30m1_5 (by decide) ?_
  refine pd_put (ty := .int) X w hx0 hz_x rfl 2 (by decide) mT_158 rfl rfl (by decide +kernel) rfl rfl (Nat.le_of_ble_eq_true rfl) d_p30m1_6 (fun H locs w => ?_)
  have w : pd_w G s H locs (pd_up h x (tg, .inr (13, [.null, .int (nI 0), .int (nI 0)]))) := w
  obtain ⟨h4, u7⟩ : ∃ z, z = pd_up h x (tg, .inr (13, [.null, .int (nI 0), .int (nI 0)])) := ⟨_, rfl⟩
  rw [← u7] at w
  have k5 : pd_kq x h h4 := by rw [u7]; exact pd_up_kq
  have f6 : h4 x = some (tg, .inr (13, [.null, .int (nI 0), .int (nI 0)])) := by rw [u7]; exact pd_up_s _ _ _
  exact pd_vret X w ⟨k5, f6⟩ (by decide) (by decide) d_p30m1_9
theorem d_p31m2_0 : decode prog_31_method_2_code 0 = .ok (.aload_n 0, 1) := by decide +kernel
theorem d_p31m2_1 : decode prog_31_method_2_code 1 = .ok (.invokespecial 1, 3) := by decide +kernel
theorem d_p31m2_4 : decode prog_31_method_2_code 4 = .ok (.aload_n 0, 1) := by decide +kernel
theorem d_p31m2_5 : decode prog_31_method_2_code 5 = .ok (.getstatic 39, 3) := by decide +kernel
theorem d_p31m2_8 : decode prog_31_method_2_code 8 = .ok (.putfield 9, 3) := by decide +kernel
theorem d_p31m2_11 : decode prog_31_method_2_code 11 = .ok (.return_, 1) := by decide +kernel
abbrev y_ArrayList_init : MethodName := ⟨"java/util/ArrayList", "<init>", "()V"⟩
theorem ok_ArrayList_init : pd_ok y_ArrayList_init prog_31_method_2_code 1 none 0 := ⟨mT_146, mT_12, by decide, by decide +kernel⟩
abbrev rm_ArrayList_init : Room := { frames := 3, cells := 0, slots := 0, locals := 60 }
set_option maxHeartbeats 4000000 in
set_option maxRecDepth 100000 in
theorem c_ArrayList_init (l : Launch) (G : pd_G) (h : pd_H) {x tg : Nat} (hx0 : h x = some (tg, .inr (13, [.null, .int (nI 0), .int (nI 0)]))) (hz_x : G.2.1 ≤ x) : pd_Mv l y_ArrayList_init prog_31_method_2_code 1 rm_ArrayList_init G h [.ref x] (fun h1 => pd_kq x h h1 ∧ h1 x = some (tg, .inr (13, [.ref (G.2.2.2 0), .int (nI 0), .int (nI 0)]))) := by
  refine pd_Mv.of (by decide) (Nat.le_of_ble_eq_true rfl) ?_
  intro p e s m below meth c X hmn w ls hl
  have hx := X.1
  have hb := X.2.1
  have hl : lv_has ls 1 [(0, .ref x)] := hl
  refine lv_aload_n hx hb d_p31m2_0 rfl (lv_at hl 0 rfl) ?_
  refine pd_cI (a := x) (As := []) (rest := []) X w (c_AbstractList_init l G h (by assumption) (by assumption)) ok_AbstractList_init rfl mT_148 mT_147 ⟨by decide, by decide⟩ rfl hl.1 rfl (Nat.le_of_ble_eq_true rfl) d_p31m2_1 ⟨by decide, by decide⟩ (fun h2 H locs hp3 w => ?_)
  refine W.widen (k := 0) (n := 0) (by decide) (by decide) ?_
  obtain ⟨k4, f5⟩ := hp3
  refine lv_aload_n hx hb d_p31m2_4 rfl (lv_at hl 0 rfl) ?_
  refine pd_gets X w (List.mem_of_getElem? (i := 1) rfl) mT_154 d_p31m2_5 ?_
  have f6 := pd_emp X w
  refine pd_put (ty := (.array (.object "java/lang/Object"))) X w f5 hz_x rfl 0 (by decide) mT_156 rfl rfl (by decide +kernel) rfl rfl (Nat.le_of_ble_eq_true rfl) d_p31m2_8 (fun H locs w => ?_)
  have w : pd_w G s H locs (pd_up h2 x (tg, .inr (13, [.ref (G.2.2.2 0), .int (nI 0), .int (nI 0)]))) := w
  obtain ⟨h7, u10⟩ : ∃ z, z = pd_up h2 x (tg, .inr (13, [.ref (G.2.2.2 0), .int (nI 0), .int (nI 0)])) := ⟨_, rfl⟩
  rw [← u10] at w
  have k8 : pd_kq x h2 h7 := by rw [u10]; exact pd_up_kq
  have f9 : h7 x = some (tg, .inr (13, [.ref (G.2.2.2 0), .int (nI 0), .int (nI 0)])) := by rw [u10]; exact pd_up_s _ _ _
  have f11 := k8 _ _ (pd_ne f6 f5 (by simp)) f6
  exact pd_vret X w ⟨(k4).tr k8, f9⟩ (by decide) (by decide) d_p31m2_11
theorem d_p31m6_0 : decode prog_31_method_6_code 0 = .ok (.aload_n 0, 1) := by decide +kernel
theorem d_p31m6_1 : decode prog_31_method_6_code 1 = .ok (.getfield 9, 3) := by decide +kernel
theorem d_p31m6_4 : decode prog_31_method_6_code 4 = .ok (.arraylength, 1) := by decide +kernel
theorem d_p31m6_5 : decode prog_31_method_6_code 5 = .ok (.istore_n 2, 1) := by decide +kernel
theorem d_p31m6_6 : decode prog_31_method_6_code 6 = .ok (.iload_n 2, 1) := by decide +kernel
theorem d_p31m6_7 : decode prog_31_method_6_code 7 = .ok (.ifCond .gt 13, 3) := by decide +kernel
theorem d_p31m6_10 : decode prog_31_method_6_code 10 = .ok (.aload_n 0, 1) := by decide +kernel
theorem d_p31m6_11 : decode prog_31_method_6_code 11 = .ok (.getfield 9, 3) := by decide +kernel
theorem d_p31m6_14 : decode prog_31_method_6_code 14 = .ok (.getstatic 39, 3) := by decide +kernel
theorem d_p31m6_17 : decode prog_31_method_6_code 17 = .ok (.if_acmp .eq 28, 3) := by decide +kernel
theorem d_p31m6_20 : decode prog_31_method_6_code 20 = .ok (.iload_n 2, 1) := by decide +kernel
theorem d_p31m6_21 : decode prog_31_method_6_code 21 = .ok (.iload_n 1, 1) := by decide +kernel
theorem d_p31m6_22 : decode prog_31_method_6_code 22 = .ok (.iload_n 2, 1) := by decide +kernel
theorem d_p31m6_23 : decode prog_31_method_6_code 23 = .ok (.isub, 1) := by decide +kernel
theorem d_p31m6_24 : decode prog_31_method_6_code 24 = .ok (.iload_n 2, 1) := by decide +kernel
theorem d_p31m6_25 : decode prog_31_method_6_code 25 = .ok (.iconst 1, 1) := by decide +kernel
theorem d_p31m6_26 : decode prog_31_method_6_code 26 = .ok (.ishr, 1) := by decide +kernel
theorem d_p31m6_27 : decode prog_31_method_6_code 27 = .ok (.invokestatic 73, 3) := by decide +kernel
theorem d_p31m6_30 : decode prog_31_method_6_code 30 = .ok (.istore_n 3, 1) := by decide +kernel
theorem d_p31m6_31 : decode prog_31_method_6_code 31 = .ok (.aload_n 0, 1) := by decide +kernel
theorem d_p31m6_32 : decode prog_31_method_6_code 32 = .ok (.aload_n 0, 1) := by decide +kernel
theorem d_p31m6_33 : decode prog_31_method_6_code 33 = .ok (.getfield 9, 3) := by decide +kernel
theorem d_p31m6_36 : decode prog_31_method_6_code 36 = .ok (.iload_n 3, 1) := by decide +kernel
theorem d_p31m6_37 : decode prog_31_method_6_code 37 = .ok (.invokestatic 66, 3) := by decide +kernel
theorem d_p31m6_40 : decode prog_31_method_6_code 40 = .ok (.dup_x1, 1) := by decide +kernel
theorem d_p31m6_41 : decode prog_31_method_6_code 41 = .ok (.putfield 9, 3) := by decide +kernel
theorem d_p31m6_44 : decode prog_31_method_6_code 44 = .ok (.areturn, 1) := by decide +kernel
theorem d_p31m6_45 : decode prog_31_method_6_code 45 = .ok (.aload_n 0, 1) := by decide +kernel
theorem d_p31m6_46 : decode prog_31_method_6_code 46 = .ok (.bipush 10, 2) := by decide +kernel
theorem d_p31m6_48 : decode prog_31_method_6_code 48 = .ok (.iload_n 1, 1) := by decide +kernel
theorem d_p31m6_49 : decode prog_31_method_6_code 49 = .ok (.invokestatic 79, 3) := by decide +kernel
theorem d_p31m6_52 : decode prog_31_method_6_code 52 = .ok (.anewarray 7, 3) := by decide +kernel
theorem d_p31m6_55 : decode prog_31_method_6_code 55 = .ok (.dup_x1, 1) := by decide +kernel
theorem d_p31m6_56 : decode prog_31_method_6_code 56 = .ok (.putfield 9, 3) := by decide +kernel
theorem d_p31m6_59 : decode prog_31_method_6_code 59 = .ok (.areturn, 1) := by decide +kernel
abbrev y_AL_growI0 : MethodName := ⟨"java/util/ArrayList", "grow", "(I)[Ljava/lang/Object;"⟩
theorem ok_AL_growI0 : pd_ok y_AL_growI0 prog_31_method_6_code 4 (some (.array (.object "java/lang/Object"))) 1 := ⟨mT_205, mT_12, by decide, by decide +kernel⟩
abbrev rm_AL_growI0 : Room := { frames := 1, cells := 1, slots := 10, locals := 21 }
set_option maxHeartbeats 4000000 in
set_option maxRecDepth 100000 in
theorem c_AL_growI0 (l : Launch) (G : pd_G) (h : pd_H) {x mc : Nat} (hx0 : h x = some (7, .inr (13, [.ref (G.2.2.2 0), .int (nI 0), .int (nI mc)]))) (hz_x : G.2.1 ≤ x) : pd_M l y_AL_growI0 prog_31_method_6_code 4 (some (.array (.object "java/lang/Object"))) rm_AL_growI0 G h [.ref x, .int (nI 1)] Value.ref (fun r h1 => pd_kx [7] h h1 ∧ G.2.1 ≤ r ∧ h1 x = some (7, .inr (13, [.ref r, .int (nI 0), .int (nI mc)])) ∧ h1 r = some (8, .inl (.object "java/lang/Object", 10, .inr (.inr (.inr (.inr (fun _ => none))))))) := by
  refine pd_M.of (by decide) (Nat.le_of_ble_eq_true rfl) ?_
  intro p e s m below meth c X hmn w ls hl
  have hx := X.1
  have hb := X.2.1
  have hl : lv_has ls 4 [(0, .ref x), (1, .int (nI 1))] := hl
  refine lv_aload_n hx hb d_p31m6_0 rfl (lv_at hl 0 rfl) ?_
  refine pd_get X w hx0 rfl 0 (by decide) mT_156 rfl rfl d_p31m6_1 ?_
  have f1 := pd_emp X w
  refine pd_alen X w f1 d_p31m6_4 ?_
  refine lv_istore_n (lv' := [(2, .int (nI 0)), (0, .ref x), (1, .int (nI 1))]) hx hb d_p31m6_5 rfl hl (by decide) rfl (fun ls hl => ?_)
  refine lv_iload_n hx hb d_p31m6_6 rfl (lv_at hl 0 rfl) ?_
  refine pd_zgt (tgt := 20) hx hb d_p31m6_7 (by decide) (by decide) (fun q => absurd q (by decide)) (fun _ => ?_)
  refine lv_aload_n hx hb d_p31m6_10 rfl (lv_at hl 1 rfl) ?_
  refine pd_get X w hx0 rfl 0 (by decide) mT_156 rfl rfl d_p31m6_11 ?_
  refine pd_gets X w (List.mem_of_getElem? (i := 1) rfl) mT_154 d_p31m6_14 ?_
  have f3 := pd_emp X w
  refine lv_acmp_eq (rx := (some (G.2.2.2 0))) (ry := (some (G.2.2.2 0))) (tgt := 45) hx hb d_p31m6_17 (by decide) (fun _ => ?_) (fun q => absurd rfl q)
  refine lv_aload_n hx hb d_p31m6_45 rfl (lv_at hl 1 rfl) ?_
  refine lv_bipush (v := nI 10) hx hb d_p31m6_46 (by decide) ?_
  refine lv_iload_n hx hb d_p31m6_48 rfl (lv_at hl 2 rfl) ?_
  refine pd_mmax X hl.1 (by omega) (by omega) mT_250 mT_210 mT_15 mT_211 (by decide) (Nat.le_of_ble_eq_true rfl) (by decide) (by decide) d_p31m6_49 ?_
  refine pd_top (v' := .int (nI 10)) rfl ?_
  refine pd_newq (E := "java/lang/Object") 8 X w mT_251 mT_242 (by omega) (by decide) (Nat.le_trans (Nat.add_le_add_left (by omega : 10 ≤ 10) _) (by decide)) d_p31m6_52 (fun q5 H hq6 hz7 w => ?_)
  refine W.widen (k := 1) (n := 10) (by decide) (by omega) ?_
  obtain ⟨h8, u11⟩ : ∃ z, z = pd_up h q5 (8, .inl ((.object "java/lang/Object"), 10, .inr (.inr (.inr (.inr (fun _ => none)))))) := ⟨_, rfl⟩
  rw [← u11] at w
  have k9 : pd_kx [] h h8 := by rw [u11]; exact pd_new_kx hq6
  have f10 : h8 q5 = some (8, .inl ((.object "java/lang/Object"), 10, .inr (.inr (.inr (.inr (fun _ => none)))))) := by rw [u11]; exact pd_up_s _ _ _
  have f12 := k9 _ _ hx0 List.not_mem_nil
  have f13 := k9 _ _ f3 List.not_mem_nil
  refine lv_dup_x1 hx hb d_p31m6_55 rfl rfl ?_
  refine pd_put (ty := (.array (.object "java/lang/Object"))) X w f12 hz_x rfl 0 (by decide) mT_156 rfl rfl (by decide +kernel) rfl rfl (Nat.le_of_ble_eq_true rfl) d_p31m6_56 (fun H locs w => ?_)
  have w : pd_w G s H locs (pd_up h8 x (7, .inr (13, [.ref q5, .int (nI 0), .int (nI mc)]))) := w
  obtain ⟨h14, u17⟩ : ∃ z, z = pd_up h8 x (7, .inr (13, [.ref q5, .int (nI 0), .int (nI mc)])) := ⟨_, rfl⟩
  rw [← u17] at w
  have k15 : pd_kq x h8 h14 := by rw [u17]; exact pd_up_kq
  have f16 : h14 x = some (7, .inr (13, [.ref q5, .int (nI 0), .int (nI mc)])) := by rw [u17]; exact pd_up_s _ _ _
  have f18 := k15 _ _ (pd_ne f13 f12 (by simp)) f13
  have f19 := k15 _ _ (pd_ne f10 f12 (by simp)) f10
  exact pd_aret (v := q5) X (Or.inr ⟨_, rfl⟩) w ⟨pd_kx.tr (pd_kx.mono (us := [7]) (k9) (by simp)) (pd_kq.kx (k15) f12), hz7, f16, f19⟩ (by decide) (by decide) d_p31m6_59
theorem d_p31m7_0 : decode prog_31_method_7_code 0 = .ok (.aload_n 0, 1) := by decide +kernel
theorem d_p31m7_1 : decode prog_31_method_7_code 1 = .ok (.aload_n 0, 1) := by decide +kernel
theorem d_p31m7_2 : decode prog_31_method_7_code 2 = .ok (.getfield 48, 3) := by decide +kernel
theorem d_p31m7_5 : decode prog_31_method_7_code 5 = .ok (.iconst 1, 1) := by decide +kernel
theorem d_p31m7_6 : decode prog_31_method_7_code 6 = .ok (.iadd, 1) := by decide +kernel
theorem d_p31m7_7 : decode prog_31_method_7_code 7 = .ok (.invokevirtual 69, 3) := by decide +kernel
theorem d_p31m7_10 : decode prog_31_method_7_code 10 = .ok (.areturn, 1) := by decide +kernel
abbrev y_AL_grow0 : MethodName := ⟨"java/util/ArrayList", "grow", "()[Ljava/lang/Object;"⟩
theorem ok_AL_grow0 : pd_ok y_AL_grow0 prog_31_method_7_code 1 (some (.array (.object "java/lang/Object"))) 0 := ⟨mT_201, mT_12, by decide, by decide +kernel⟩
abbrev rm_AL_grow0 : Room := { frames := 2, cells := 1, slots := 10, locals := 44 }
set_option maxHeartbeats 4000000 in
set_option maxRecDepth 100000 in
theorem c_AL_grow0 (l : Launch) (G : pd_G) (h : pd_H) {x mc : Nat} (hx0 : h x = some (7, .inr (13, [.ref (G.2.2.2 0), .int (nI 0), .int (nI mc)]))) (hz_x : G.2.1 ≤ x) : pd_M l y_AL_grow0 prog_31_method_7_code 1 (some (.array (.object "java/lang/Object"))) rm_AL_grow0 G h [.ref x] Value.ref (fun r h1 => pd_kx [7] h h1 ∧ G.2.1 ≤ r ∧ h1 x = some (7, .inr (13, [.ref r, .int (nI 0), .int (nI mc)])) ∧ h1 r = some (8, .inl (.object "java/lang/Object", 10, .inr (.inr (.inr (.inr (fun _ => none))))))) := by
  refine pd_M.of (by decide) (Nat.le_of_ble_eq_true rfl) ?_
  intro p e s m below meth c X hmn w ls hl
  have hx := X.1
  have hb := X.2.1
  have hl : lv_has ls 1 [(0, .ref x)] := hl
  refine lv_aload_n hx hb d_p31m7_0 rfl (lv_at hl 0 rfl) ?_
  refine lv_aload_n hx hb d_p31m7_1 rfl (lv_at hl 0 rfl) ?_
  refine pd_get X w hx0 rfl 1 (by decide) mT_157 rfl rfl d_p31m7_2 ?_
  refine lv_iconst (v := nI 1) hx hb d_p31m7_5 (by decide) ?_
  refine pd_iadd hx hb d_p31m7_6 ?_
  refine pd_cV (a := x) (As := [.int (nI 1)]) (rest := []) X w hx0 rfl (c_AL_growI0 l G h (by assumption) (by assumption)) ok_AL_growI0 ⟨mT_204, sT_2⟩ mT_202 ⟨by decide, by decide⟩ rfl hl.1 rfl (Nat.le_of_ble_eq_true rfl) d_p31m7_7 ⟨by decide, by decide⟩ (fun r1 h2 H locs hp3 w => ?_)
  refine W.widen (k := 1) (n := 10) (by decide) (by decide) ?_
  obtain ⟨k4, hz5, f6, f7⟩ := hp3
  exact pd_aret (v := r1) X (Or.inr ⟨_, rfl⟩) w ⟨k4, hz5, f6, f7⟩ (by decide) (by decide) d_p31m7_10
theorem d_p32m120_0 : decode prog_32_method_120_code 0 = .ok (.aload_n 2, 1) := by decide +kernel
theorem d_p32m120_1 : decode prog_32_method_120_code 1 = .ok (.ldc 110, 2) := by decide +kernel
theorem d_p32m120_3 : decode prog_32_method_120_code 3 = .ok (.if_acmp .ne 10, 3) := by decide +kernel
theorem d_p32m120_6 : decode prog_32_method_120_code 6 = .ok (.iload_n 1, 1) := by decide +kernel
theorem d_p32m120_7 : decode prog_32_method_120_code 7 = .ok (.anewarray 2, 3) := by decide +kernel
theorem d_p32m120_10 : decode prog_32_method_120_code 10 = .ok (.goto 14, 3) := by decide +kernel
theorem d_p32m120_13 : decode prog_32_method_120_code 13 = .ok (.aload_n 2, 1) := by decide +kernel
theorem d_p32m120_14 : decode prog_32_method_120_code 14 = .ok (.invokevirtual 90, 3) := by decide +kernel
theorem d_p32m120_17 : decode prog_32_method_120_code 17 = .ok (.iload_n 1, 1) := by decide +kernel
theorem d_p32m120_18 : decode prog_32_method_120_code 18 = .ok (.invokestatic 95, 3) := by decide +kernel
theorem d_p32m120_21 : decode prog_32_method_120_code 21 = .ok (.checkcast 110, 3) := by decide +kernel
theorem d_p32m120_24 : decode prog_32_method_120_code 24 = .ok (.astore_n 3, 1) := by decide +kernel
theorem d_p32m120_25 : decode prog_32_method_120_code 25 = .ok (.aload_n 0, 1) := by decide +kernel
theorem d_p32m120_26 : decode prog_32_method_120_code 26 = .ok (.iconst 0, 1) := by decide +kernel
theorem d_p32m120_27 : decode prog_32_method_120_code 27 = .ok (.aload_n 3, 1) := by decide +kernel
theorem d_p32m120_28 : decode prog_32_method_120_code 28 = .ok (.iconst 0, 1) := by decide +kernel
theorem d_p32m120_29 : decode prog_32_method_120_code 29 = .ok (.aload_n 0, 1) := by decide +kernel
theorem d_p32m120_30 : decode prog_32_method_120_code 30 = .ok (.arraylength, 1) := by decide +kernel
theorem d_p32m120_31 : decode prog_32_method_120_code 31 = .ok (.iload_n 1, 1) := by decide +kernel
theorem d_p32m120_32 : decode prog_32_method_120_code 32 = .ok (.invokestatic 304, 3) := by decide +kernel
theorem d_p32m120_35 : decode prog_32_method_120_code 35 = .ok (.invokestatic 150, 3) := by decide +kernel
theorem d_p32m120_38 : decode prog_32_method_120_code 38 = .ok (.aload_n 3, 1) := by decide +kernel
theorem d_p32m120_39 : decode prog_32_method_120_code 39 = .ok (.areturn, 1) := by decide +kernel
abbrev y_Arrays_copyOfOC : MethodName := ⟨"java/util/Arrays", "copyOf", "([Ljava/lang/Object;ILjava/lang/Class;)[Ljava/lang/Object;"⟩
theorem ok_Arrays_copyOfOC : pd_ok y_Arrays_copyOfOC prog_32_method_120_code 4 (some (.array (.object "java/lang/Object"))) 3 := ⟨mT_240, mT_16, by decide, by decide +kernel⟩
abbrev rm_Arrays_copyOfOC : Room := { frames := 1, cells := 1, slots := 15, locals := 40 }
set_option maxHeartbeats 4000000 in
set_option maxRecDepth 100000 in
theorem c_Arrays_copyOfOC (l : Launch) (G : pd_G) (h : pd_H) {v1 : Nat} {f : Nat → Option Nat} (hv : h v1 = some (8, .inl (.object "java/lang/Object", 10, .inr (.inr (.inr (.inr f)))))) (hz_v1 : G.2.1 ≤ v1) (hel : ∀ i, i < 10 → ∀ y, f i = some y → ∃ fs, h y = some (0, .inr (2, fs))) : pd_M l y_Arrays_copyOfOC prog_32_method_120_code 4 (some (.array (.object "java/lang/Object"))) rm_Arrays_copyOfOC G h [.ref v1, .int (nI 15), .ref (G.2.2.2 5)] Value.ref (fun r h1 => pd_kx [] h h1 ∧ G.2.1 ≤ r ∧ ∃ g : Nat → Option Nat, h1 r = some (8, .inl (.object "java/lang/Object", 15, .inr (.inr (.inr (.inr g))))) ∧ ∀ j, j < 10 → g j = f j) := by
  refine pd_M.of (by decide) (Nat.le_of_ble_eq_true rfl) ?_
  intro p e s m below meth c X hmn w ls hl
  have hx := X.1
  have hb := X.2.1
  have hl : lv_has ls 4 [(0, .ref v1), (1, .int (nI 15)), (2, .ref (G.2.2.2 5))] := hl
  refine lv_aload_n hx hb d_p32m120_0 rfl (lv_at hl 2 rfl) ?_
  refine va_ldcM hx hb X.2.2.2.2.1 (X.2.2.2.2.2.1 _ mT_241) X.mi d_p32m120_1 ?_
  refine lv_acmp_ne (rx := (some (G.2.2.2 5))) (ry := (some (G.2.2.2 5))) (tgt := 13) hx hb d_p32m120_3 (by decide) (fun q => absurd rfl q) (fun _ => ?_)
  refine lv_iload_n hx hb d_p32m120_6 rfl (lv_at hl 1 rfl) ?_
  refine pd_newq (E := "java/lang/Object") 8 X w mT_243 mT_242 (by omega) (by decide) (Nat.le_trans (Nat.add_le_add_left (by omega : 15 ≤ 15) _) (by decide)) d_p32m120_7 (fun q2 H hq3 hz4 w => ?_)
  refine W.widen (k := 1) (n := 15) (by decide) (by omega) ?_
  obtain ⟨h5, u8⟩ : ∃ z, z = pd_up h q2 (8, .inl ((.object "java/lang/Object"), 15, .inr (.inr (.inr (.inr (fun _ => none)))))) := ⟨_, rfl⟩
  rw [← u8] at w
  have k6 : pd_kx [] h h5 := by rw [u8]; exact pd_new_kx hq3
  have f7 : h5 q2 = some (8, .inl ((.object "java/lang/Object"), 15, .inr (.inr (.inr (.inr (fun _ => none)))))) := by rw [u8]; exact pd_up_s _ _ _
  have f9 := k6 _ _ hv List.not_mem_nil
  refine lv_goto (tgt := 24) hx hb d_p32m120_10 (by decide) ?_
  refine lv_astore_n (lv' := [(3, .ref q2), (0, .ref v1), (1, .int (nI 15)), (2, .ref (G.2.2.2 5))]) hx hb d_p32m120_24 rfl hl (by decide) rfl (fun ls hl => ?_)
  refine lv_aload_n hx hb d_p32m120_25 rfl (lv_at hl 1 rfl) ?_
  refine lv_iconst (v := nI 0) hx hb d_p32m120_26 (by decide) ?_
  refine lv_aload_n hx hb d_p32m120_27 rfl (lv_at hl 0 rfl) ?_
  refine lv_iconst (v := nI 0) hx hb d_p32m120_28 (by decide) ?_
  refine lv_aload_n hx hb d_p32m120_29 rfl (lv_at hl 1 rfl) ?_
  refine pd_alen X w f9 d_p32m120_30 ?_
  refine lv_iload_n hx hb d_p32m120_31 rfl (lv_at hl 2 rfl) ?_
  refine pd_mmin X hl.1 (by omega) (by omega) mT_244 mT_245 mT_15 mT_246 (by decide) (Nat.le_of_ble_eq_true rfl) (by decide) (by decide) d_p32m120_32 ?_
  refine pd_top (v' := .int (nI 10)) rfl ?_
  refine pd_ocopy X hl.1 w f9 f7 hz4 mT_247 mT_249 mT_248 mT_17 (by omega) (by omega) (by omega) (by omega) (fun i hi y hy => by obtain ⟨fs, hf⟩ := hel i hi y (by rw [← hy]; exact congrArg f (by omega)); exact ⟨0, 2, fs, _, k6 _ _ hf List.not_mem_nil, rfl, mT_1499⟩) (by decide) (Nat.le_of_ble_eq_true rfl) d_p32m120_35 (fun H locs w => ?_)
  have w : pd_w G s H locs (pd_up h5 q2 (8, .inl ((.object "java/lang/Object"), 15, .inr (.inr (.inr (.inr (va_cpy f (fun _ => none) 0 0 10))))))) := w
  obtain ⟨h10, u13⟩ : ∃ z, z = pd_up h5 q2 (8, .inl ((.object "java/lang/Object"), 15, .inr (.inr (.inr (.inr (va_cpy f (fun _ => none) 0 0 10)))))) := ⟨_, rfl⟩
  rw [← u13] at w
  have k11 : pd_kq q2 h5 h10 := by rw [u13]; exact pd_up_kq
  have f12 : h10 q2 = some (8, .inl ((.object "java/lang/Object"), 15, .inr (.inr (.inr (.inr (va_cpy f (fun _ => none) 0 0 10)))))) := by rw [u13]; exact pd_up_s _ _ _
  have f14 := k11 _ _ (pd_nn hv hq3) f9
  refine lv_aload_n hx hb d_p32m120_38 rfl (lv_at hl 0 rfl) ?_
  have kt15 : pd_kx [] h h10 := by
    intro ya c9 ys0 n9
    have ys1 := k6 ya c9 ys0 List.not_mem_nil
    have ys2 := k11 ya c9 (pd_nn ys0 hq3) ys1
    exact ys2
  exact pd_aret (v := q2) X (Or.inr ⟨_, rfl⟩) w ⟨kt15, hz4, _, f12, fun j hj => by rw [pk_cpy_in (by omega) (by omega)]; exact congrArg f (by omega)⟩ (by decide) (by decide) d_p32m120_39
theorem d_p32m119_0 : decode prog_32_method_119_code 0 = .ok (.aload_n 0, 1) := by decide +kernel
theorem d_p32m119_1 : decode prog_32_method_119_code 1 = .ok (.iload_n 1, 1) := by decide +kernel
theorem d_p32m119_2 : decode prog_32_method_119_code 2 = .ok (.aload_n 0, 1) := by decide +kernel
theorem d_p32m119_3 : decode prog_32_method_119_code 3 = .ok (.invokevirtual 86, 3) := by decide +kernel
theorem d_p32m119_6 : decode prog_32_method_119_code 6 = .ok (.invokestatic 300, 3) := by decide +kernel
theorem d_p32m119_9 : decode prog_32_method_119_code 9 = .ok (.areturn, 1) := by decide +kernel
abbrev y_Arrays_copyOfO : MethodName := ⟨"java/util/Arrays", "copyOf", "([Ljava/lang/Object;I)[Ljava/lang/Object;"⟩
theorem ok_Arrays_copyOfO : pd_ok y_Arrays_copyOfO prog_32_method_119_code 2 (some (.array (.object "java/lang/Object"))) 2 := ⟨mT_218, mT_16, by decide, by decide +kernel⟩
abbrev rm_Arrays_copyOfO : Room := { frames := 2, cells := 1, slots := 15, locals := 63 }
set_option maxHeartbeats 4000000 in
set_option maxRecDepth 100000 in
theorem c_Arrays_copyOfO (l : Launch) (G : pd_G) (h : pd_H) {v1 : Nat} {f : Nat → Option Nat} (hv : h v1 = some (8, .inl (.object "java/lang/Object", 10, .inr (.inr (.inr (.inr f)))))) (hz_v1 : G.2.1 ≤ v1) (hel : ∀ i, i < 10 → ∀ y, f i = some y → ∃ fs, h y = some (0, .inr (2, fs))) : pd_M l y_Arrays_copyOfO prog_32_method_119_code 2 (some (.array (.object "java/lang/Object"))) rm_Arrays_copyOfO G h [.ref v1, .int (nI 15)] Value.ref (fun r h1 => pd_kx [] h h1 ∧ G.2.1 ≤ r ∧ ∃ g : Nat → Option Nat, h1 r = some (8, .inl (.object "java/lang/Object", 15, .inr (.inr (.inr (.inr g))))) ∧ ∀ j, j < 10 → g j = f j) := by
  refine pd_M.of (by decide) (Nat.le_of_ble_eq_true rfl) ?_
  intro p e s m below meth c X hmn w ls hl
  have hx := X.1
  have hb := X.2.1
  have hl : lv_has ls 2 [(0, .ref v1), (1, .int (nI 15))] := hl
  refine lv_aload_n hx hb d_p32m119_0 rfl (lv_at hl 0 rfl) ?_
  refine lv_iload_n hx hb d_p32m119_1 rfl (lv_at hl 1 rfl) ?_
  refine lv_aload_n hx hb d_p32m119_2 rfl (lv_at hl 0 rfl) ?_
  refine pd_getC X hl.1 w hv hz_v1 mT_219 mT_1496 mT_1495 mT_220 mT_237 (by decide) (Nat.le_of_ble_eq_true rfl) d_p32m119_3 ?_
  refine pd_cS (As := [.ref v1, .int (nI 15), .ref (G.2.2.2 5)]) (rest := []) X w (c_Arrays_copyOfOC l G h (by assumption) (by assumption) (by assumption)) ok_Arrays_copyOfOC mT_239 mT_238 ⟨by decide, by decide⟩ rfl hl.1 rfl (Nat.le_of_ble_eq_true rfl) d_p32m119_6 ⟨by decide, by decide⟩ (fun r1 h2 H locs hp3 w => ?_)
  refine W.widen (k := 1) (n := 15) (by decide) (by decide) ?_
  obtain ⟨k4, hz5, g6, f7, gj8⟩ := hp3
  have f9 := k4 _ _ hv List.not_mem_nil
  exact pd_aret (v := r1) X (Or.inr ⟨_, rfl⟩) w ⟨k4, hz5, _, f7, gj8⟩ (by decide) (by decide) d_p32m119_9
abbrev y_AL_growI2 : MethodName := ⟨"java/util/ArrayList", "grow", "(I)[Ljava/lang/Object;"⟩
theorem ok_AL_growI2 : pd_ok y_AL_growI2 prog_31_method_6_code 4 (some (.array (.object "java/lang/Object"))) 1 := ⟨mT_205, mT_12, by decide, by decide +kernel⟩
abbrev rm_AL_growI2 : Room := { frames := 3, cells := 1, slots := 15, locals := 84 }
set_option maxHeartbeats 4000000 in
set_option maxRecDepth 100000 in
theorem c_AL_growI2 (l : Launch) (G : pd_G) (h : pd_H) {x v mc : Nat} {f : Nat → Option Nat} (hx0 : h x = some (7, .inr (13, [.ref v, .int (nI 10), .int (nI mc)]))) (hv : h v = some (8, .inl (.object "java/lang/Object", 10, .inr (.inr (.inr (.inr f)))))) (hz_x : G.2.1 ≤ x) (hz_v : G.2.1 ≤ v) (hel : ∀ i, i < 10 → ∀ y, f i = some y → ∃ fs, h y = some (0, .inr (2, fs))) : pd_M l y_AL_growI2 prog_31_method_6_code 4 (some (.array (.object "java/lang/Object"))) rm_AL_growI2 G h [.ref x, .int (nI 11)] Value.ref (fun r h1 => pd_kx [7] h h1 ∧ G.2.1 ≤ r ∧ ∃ g : Nat → Option Nat, h1 x = some (7, .inr (13, [.ref r, .int (nI 10), .int (nI mc)])) ∧ h1 r = some (8, .inl (.object "java/lang/Object", 15, .inr (.inr (.inr (.inr g))))) ∧ ∀ j, j < 10 → g j = f j) := by
  refine pd_M.of (by decide) (Nat.le_of_ble_eq_true rfl) ?_
  intro p e s m below meth c X hmn w ls hl
  have hx := X.1
  have hb := X.2.1
  have hl : lv_has ls 4 [(0, .ref x), (1, .int (nI 11))] := hl
  refine lv_aload_n hx hb d_p31m6_0 rfl (lv_at hl 0 rfl) ?_
  refine pd_get X w hx0 rfl 0 (by decide) mT_156 rfl rfl d_p31m6_1 ?_
  refine pd_alen X w hv d_p31m6_4 ?_
  refine lv_istore_n (lv' := [(2, .int (nI 10)), (0, .ref x), (1, .int (nI 11))]) hx hb d_p31m6_5 rfl hl (by decide) rfl (fun ls hl => ?_)
  refine lv_iload_n hx hb d_p31m6_6 rfl (lv_at hl 0 rfl) ?_
  refine pd_zgt (tgt := 20) hx hb d_p31m6_7 (by decide) (by decide) (fun _ => ?_) (fun q => absurd q (by decide))
  refine lv_iload_n hx hb d_p31m6_20 rfl (lv_at hl 0 rfl) ?_
  refine lv_iload_n hx hb d_p31m6_21 rfl (lv_at hl 2 rfl) ?_
  refine lv_iload_n hx hb d_p31m6_22 rfl (lv_at hl 0 rfl) ?_
  refine pd_isub hx hb d_p31m6_23 (by omega) ?_
  refine lv_iload_n hx hb d_p31m6_24 rfl (lv_at hl 0 rfl) ?_
  refine lv_iconst (v := nI 1) hx hb d_p31m6_25 (by decide) ?_
  refine lv_ishr hx hb d_p31m6_26 ?_
  refine pd_top (v' := .int (nI 5)) (by decide) ?_
  refine pd_cS (As := [.int (nI 10), .int (nI 1), .int (nI 5)]) (rest := []) X w (c_ArraysSupport_newLength l G h (by omega) (by omega) (by omega) (by omega)) ok_ArraysSupport_newLength mT_207 mT_206 ⟨by decide, by decide⟩ rfl hl.1 rfl (Nat.le_of_ble_eq_true rfl) d_p31m6_27 ⟨by decide, by decide⟩ (fun r2 h3 H locs hp4 w => ?_)
  refine W.widen (k := 0) (n := 0) (by decide) (by decide) ?_
  obtain ⟨e5, rfl⟩ := hp4
  have e15 : r2 = 15 := e5
  refine pd_top (v' := .int (nI 15)) (by rw [e15]) ?_
  refine lv_istore_n (lv' := [(3, .int (nI 15)), (2, .int (nI 10)), (0, .ref x), (1, .int (nI 11))]) hx hb d_p31m6_30 rfl hl (by decide) rfl (fun ls hl => ?_)
  refine lv_aload_n hx hb d_p31m6_31 rfl (lv_at hl 2 rfl) ?_
  refine lv_aload_n hx hb d_p31m6_32 rfl (lv_at hl 2 rfl) ?_
  refine pd_get X w hx0 rfl 0 (by decide) mT_156 rfl rfl d_p31m6_33 ?_
  refine lv_iload_n hx hb d_p31m6_36 rfl (lv_at hl 0 rfl) ?_
  refine pd_cS (As := [.ref v, .int (nI 15)]) (rest := [.ref x]) X w (c_Arrays_copyOfO l G h (by assumption) (by assumption) (by assumption)) ok_Arrays_copyOfO mT_217 mT_216 ⟨by decide, by decide⟩ rfl hl.1 rfl (Nat.le_of_ble_eq_true rfl) d_p31m6_37 ⟨by decide, by decide⟩ (fun r6 h7 H locs hp8 w => ?_)
  refine W.widen (k := 1) (n := 15) (by decide) (by decide) ?_
  obtain ⟨k9, hz10, g11, f12, gj13⟩ := hp8
  have f14 := k9 _ _ hx0 List.not_mem_nil
  have f15 := k9 _ _ hv List.not_mem_nil
  refine lv_dup_x1 hx hb d_p31m6_40 rfl rfl ?_
  refine pd_put (ty := (.array (.object "java/lang/Object"))) X w f14 hz_x rfl 0 (by decide) mT_156 rfl rfl (by decide +kernel) rfl rfl (Nat.le_of_ble_eq_true rfl) d_p31m6_41 (fun H locs w => ?_)
  have w : pd_w G s H locs (pd_up h7 x (7, .inr (13, [.ref r6, .int (nI 10), .int (nI mc)]))) := w
  obtain ⟨h16, u19⟩ : ∃ z, z = pd_up h7 x (7, .inr (13, [.ref r6, .int (nI 10), .int (nI mc)])) := ⟨_, rfl⟩
  rw [← u19] at w
  have k17 : pd_kq x h7 h16 := by rw [u19]; exact pd_up_kq
  have f18 : h16 x = some (7, .inr (13, [.ref r6, .int (nI 10), .int (nI mc)])) := by rw [u19]; exact pd_up_s _ _ _
  have f20 := k17 _ _ (pd_ne f15 f14 (by simp)) f15
  have f21 := k17 _ _ (pd_ne f12 f14 (by simp)) f12
  exact pd_aret (v := r6) X (Or.inr ⟨_, rfl⟩) w ⟨pd_kx.tr (pd_kx.mono (us := [7]) (k9) (by simp)) (pd_kq.kx (k17) f14), hz10, _, f18, f21, gj13⟩ (by decide) (by decide) d_p31m6_44
abbrev y_AL_grow2 : MethodName := ⟨"java/util/ArrayList", "grow", "()[Ljava/lang/Object;"⟩
theorem ok_AL_grow2 : pd_ok y_AL_grow2 prog_31_method_7_code 1 (some (.array (.object "java/lang/Object"))) 0 := ⟨mT_201, mT_12, by decide, by decide +kernel⟩
abbrev rm_AL_grow2 : Room := { frames := 4, cells := 1, slots := 15, locals := 107 }
set_option maxHeartbeats 4000000 in
set_option maxRecDepth 100000 in
theorem c_AL_grow2 (l : Launch) (G : pd_G) (h : pd_H) {x v mc : Nat} {f : Nat → Option Nat} (hx0 : h x = some (7, .inr (13, [.ref v, .int (nI 10), .int (nI mc)]))) (hv : h v = some (8, .inl (.object "java/lang/Object", 10, .inr (.inr (.inr (.inr f)))))) (hz_x : G.2.1 ≤ x) (hz_v : G.2.1 ≤ v) (hel : ∀ i, i < 10 → ∀ y, f i = some y → ∃ fs, h y = some (0, .inr (2, fs))) : pd_M l y_AL_grow2 prog_31_method_7_code 1 (some (.array (.object "java/lang/Object"))) rm_AL_grow2 G h [.ref x] Value.ref (fun r h1 => pd_kx [7] h h1 ∧ G.2.1 ≤ r ∧ ∃ g : Nat → Option Nat, h1 x = some (7, .inr (13, [.ref r, .int (nI 10), .int (nI mc)])) ∧ h1 r = some (8, .inl (.object "java/lang/Object", 15, .inr (.inr (.inr (.inr g))))) ∧ ∀ j, j < 10 → g j = f j) := by
  refine pd_M.of (by decide) (Nat.le_of_ble_eq_true rfl) ?_
  intro p e s m below meth c X hmn w ls hl
  have hx := X.1
  have hb := X.2.1
  have hl : lv_has ls 1 [(0, .ref x)] := hl
  refine lv_aload_n hx hb d_p31m7_0 rfl (lv_at hl 0 rfl) ?_
  refine lv_aload_n hx hb d_p31m7_1 rfl (lv_at hl 0 rfl) ?_
  refine pd_get X w hx0 rfl 1 (by decide) mT_157 rfl rfl d_p31m7_2 ?_
  refine lv_iconst (v := nI 1) hx hb d_p31m7_5 (by decide) ?_
  refine pd_iadd hx hb d_p31m7_6 ?_
  refine pd_cV (a := x) (As := [.int (nI 11)]) (rest := []) X w hx0 rfl (c_AL_growI2 l G h (by assumption) (by assumption) (by assumption) (by assumption) (by assumption)) ok_AL_growI2 ⟨mT_204, sT_2⟩ mT_202 ⟨by decide, by decide⟩ rfl hl.1 rfl (Nat.le_of_ble_eq_true rfl) d_p31m7_7 ⟨by decide, by decide⟩ (fun r1 h2 H locs hp3 w => ?_)
  refine W.widen (k := 1) (n := 15) (by decide) (by decide) ?_
  obtain ⟨k4, hz5, g8, f6, f7, gj9⟩ := hp3
  have f10 := k4 _ _ hv (show (8 : Nat) ∉ [7] by decide)
  exact pd_aret (v := r1) X (Or.inr ⟨_, rfl⟩) w ⟨k4, hz5, _, f6, f7, gj9⟩ (by decide) (by decide) d_p31m7_10
theorem d_p31m24_0 : decode prog_31_method_24_code 0 = .ok (.iload_n 3, 1) := by decide +kernel
theorem d_p31m24_1 : decode prog_31_method_24_code 1 = .ok (.aload_n 2, 1) := by decide +kernel
theorem d_p31m24_2 : decode prog_31_method_24_code 2 = .ok (.arraylength, 1) := by decide +kernel
theorem d_p31m24_3 : decode prog_31_method_24_code 3 = .ok (.if_icmp .ne 8, 3) := by decide +kernel
theorem d_p31m24_6 : decode prog_31_method_24_code 6 = .ok (.aload_n 0, 1) := by decide +kernel
theorem d_p31m24_7 : decode prog_31_method_24_code 7 = .ok (.invokevirtual 129, 3) := by decide +kernel
theorem d_p31m24_10 : decode prog_31_method_24_code 10 = .ok (.astore_n 2, 1) := by decide +kernel
theorem d_p31m24_11 : decode prog_31_method_24_code 11 = .ok (.aload_n 2, 1) := by decide +kernel
theorem d_p31m24_12 : decode prog_31_method_24_code 12 = .ok (.iload_n 3, 1) := by decide +kernel
theorem d_p31m24_13 : decode prog_31_method_24_code 13 = .ok (.aload_n 1, 1) := by decide +kernel
theorem d_p31m24_14 : decode prog_31_method_24_code 14 = .ok (.aastore, 1) := by decide +kernel
theorem d_p31m24_15 : decode prog_31_method_24_code 15 = .ok (.aload_n 0, 1) := by decide +kernel
theorem d_p31m24_16 : decode prog_31_method_24_code 16 = .ok (.iload_n 3, 1) := by decide +kernel
theorem d_p31m24_17 : decode prog_31_method_24_code 17 = .ok (.iconst 1, 1) := by decide +kernel
theorem d_p31m24_18 : decode prog_31_method_24_code 18 = .ok (.iadd, 1) := by decide +kernel
theorem d_p31m24_19 : decode prog_31_method_24_code 19 = .ok (.putfield 48, 3) := by decide +kernel
theorem d_p31m24_22 : decode prog_31_method_24_code 22 = .ok (.return_, 1) := by decide +kernel
abbrev y_AL_add3_0 : MethodName := ⟨"java/util/ArrayList", "add", "(Ljava/lang/Object;[Ljava/lang/Object;I)V"⟩
theorem ok_AL_add3_0 : pd_ok y_AL_add3_0 prog_31_method_24_code 4 none 3 := ⟨mT_197, mT_12, by decide, by decide +kernel⟩
abbrev rm_AL_add3_0 : Room := { frames := 3, cells := 1, slots := 10, locals := 64 }
set_option maxHeartbeats 4000000 in
set_option maxRecDepth 100000 in
theorem c_AL_add3_0 (l : Launch) (G : pd_G) (h : pd_H) {x y mc : Nat} {f : Nat → Option Nat} {fs : List Value} (hx0 : h x = some (7, .inr (13, [.ref (G.2.2.2 0), .int (nI 0), .int (nI mc)]))) (hz_x : G.2.1 ≤ x) (hy : h y = some (0, .inr (2, fs))) : pd_Mv l y_AL_add3_0 prog_31_method_24_code 4 rm_AL_add3_0 G h [.ref x, .ref y, .ref (G.2.2.2 0), .int (nI 0)] (fun h1 => pd_kx [7, 8] h h1 ∧ ∃ (v2 cap2 : Nat) (g : Nat → Option Nat), h1 x = some (7, .inr (13, [.ref v2, .int (nI (0 + 1)), .int (nI mc)])) ∧ h1 v2 = some (8, .inl (.object "java/lang/Object", cap2, .inr (.inr (.inr (.inr g))))) ∧ (cap2 = 10 ∨ cap2 = 15) ∧ 0 + 1 ≤ cap2 ∧ (∀ j, j < 0 → g j = f j) ∧ g 0 = some y ∧ G.2.1 ≤ v2) := by
  refine pd_Mv.of (by decide) (Nat.le_of_ble_eq_true rfl) ?_
  intro p e s m below meth c X hmn w ls hl
  have hx := X.1
  have hb := X.2.1
  have hl : lv_has ls 4 [(0, .ref x), (1, .ref y), (2, .ref (G.2.2.2 0)), (3, .int (nI 0))] := hl
  have f1 := pd_emp X w
  refine lv_iload_n hx hb d_p31m24_0 rfl (lv_at hl 3 rfl) ?_
  refine lv_aload_n hx hb d_p31m24_1 rfl (lv_at hl 2 rfl) ?_
  refine pd_alen X w f1 d_p31m24_2 ?_
  refine pd_jne (tgt := 11) hx hb d_p31m24_3 (by decide) (by decide) (by decide) (fun q => absurd q (by decide)) (fun _ => ?_)
  refine lv_aload_n hx hb d_p31m24_6 rfl (lv_at hl 0 rfl) ?_
  refine pd_cV (a := x) (As := []) (rest := []) X w hx0 rfl (c_AL_grow0 l G h (by assumption) (by assumption)) ok_AL_grow0 ⟨mT_200, sT_1⟩ mT_198 ⟨by decide, by decide⟩ rfl hl.1 rfl (Nat.le_of_ble_eq_true rfl) d_p31m24_7 ⟨by decide, by decide⟩ (fun r3 h4 H locs hp5 w => ?_)
  refine W.widen (k := 1) (n := 10) (by decide) (by decide) ?_
  obtain ⟨k6, hz7, f8, f9⟩ := hp5
  have f12 := k6 _ _ hy (show (0 : Nat) ∉ [7] by decide)
  have f13 := k6 _ _ f1 (show (0 : Nat) ∉ [7] by decide)
  refine lv_astore_n (lv' := [(2, .ref r3), (0, .ref x), (1, .ref y), (3, .int (nI 0))]) hx hb d_p31m24_10 rfl hl (by decide) rfl (fun ls hl => ?_)
  refine lv_aload_n hx hb d_p31m24_11 rfl (lv_at hl 0 rfl) ?_
  refine lv_iload_n hx hb d_p31m24_12 rfl (lv_at hl 3 rfl) ?_
  refine lv_aload_n hx hb d_p31m24_13 rfl (lv_at hl 2 rfl) ?_
  refine pd_aast X w f9 hz7 f12 rfl (Or.inr mT_1499) (by omega) (by omega) d_p31m24_14 (fun H locs w => ?_)
  have w : pd_w G s H locs (pd_up h4 r3 (8, .inl ((.object "java/lang/Object"), 10, .inr (.inr (.inr (.inr (va_up (fun _ => none) 0 (some y)))))))) := w
  obtain ⟨h14, u17⟩ : ∃ z, z = pd_up h4 r3 (8, .inl ((.object "java/lang/Object"), 10, .inr (.inr (.inr (.inr (va_up (fun _ => none) 0 (some y))))))) := ⟨_, rfl⟩
  rw [← u17] at w
  have k15 : pd_kq r3 h4 h14 := by rw [u17]; exact pd_up_kq
  have f16 : h14 r3 = some (8, .inl ((.object "java/lang/Object"), 10, .inr (.inr (.inr (.inr (va_up (fun _ => none) 0 (some y))))))) := by rw [u17]; exact pd_up_s _ _ _
  have f18 := k15 _ _ (pd_ne f12 f9 (by simp)) f12
  have f19 := k15 _ _ (pd_ne f8 f9 (by simp)) f8
  have f20 := k15 _ _ (pd_ne f13 f9 (by simp)) f13
  refine lv_aload_n hx hb d_p31m24_15 rfl (lv_at hl 1 rfl) ?_
  refine lv_iload_n hx hb d_p31m24_16 rfl (lv_at hl 3 rfl) ?_
  refine lv_iconst (v := nI 1) hx hb d_p31m24_17 (by decide) ?_
  refine pd_iadd hx hb d_p31m24_18 ?_
  refine pd_put (ty := .int) X w f19 hz_x rfl 1 (by decide) mT_157 rfl rfl (by decide +kernel) rfl rfl (Nat.le_of_ble_eq_true rfl) d_p31m24_19 (fun H locs w => ?_)
  have w : pd_w G s H locs (pd_up h14 x (7, .inr (13, [.ref r3, .int (nI 1), .int (nI mc)]))) := w
  obtain ⟨h21, u24⟩ : ∃ z, z = pd_up h14 x (7, .inr (13, [.ref r3, .int (nI 1), .int (nI mc)])) := ⟨_, rfl⟩
  rw [← u24] at w
  have k22 : pd_kq x h14 h21 := by rw [u24]; exact pd_up_kq
  have f23 : h21 x = some (7, .inr (13, [.ref r3, .int (nI 1), .int (nI mc)])) := by rw [u24]; exact pd_up_s _ _ _
  have f25 := k22 _ _ (pd_ne f18 f19 (by simp)) f18
  have f26 := k22 _ _ (pd_ne f20 f19 (by simp)) f20
  have f27 := k22 _ _ (pd_ne f16 f19 (by simp)) f16
  exact pd_vret X w ⟨pd_kx.tr (pd_kx.tr (pd_kx.mono (us := [7, 8]) (k6) (by simp)) (pd_kx.mono (us := [7, 8]) (pd_kq.kx (k15) f9) (by simp))) (pd_kx.mono (us := [7, 8]) (pd_kq.kx (k22) f19) (by simp)), _, _, _, f23, f27, by omega, by omega, (fun j hj => absurd hj (Nat.not_lt_zero j)), (by unfold va_up; rw [if_pos rfl]), hz7⟩ (by decide) (by decide) d_p31m24_22
abbrev y_AL_add3_n : MethodName := ⟨"java/util/ArrayList", "add", "(Ljava/lang/Object;[Ljava/lang/Object;I)V"⟩
theorem ok_AL_add3_n : pd_ok y_AL_add3_n prog_31_method_24_code 4 none 3 := ⟨mT_197, mT_12, by decide, by decide +kernel⟩
abbrev rm_AL_add3_n : Room := { frames := 0, cells := 0, slots := 0, locals := 0 }
set_option maxHeartbeats 4000000 in
set_option maxRecDepth 100000 in
theorem c_AL_add3_n (l : Launch) (G : pd_G) (h : pd_H) {x y v cap n mc : Nat} {f : Nat → Option Nat} {fs : List Value} (hx0 : h x = some (7, .inr (13, [.ref v, .int (nI n), .int (nI mc)]))) (hv : h v = some (8, .inl (.object "java/lang/Object", cap, .inr (.inr (.inr (.inr f)))))) (hz_x : G.2.1 ≤ x) (hz_v : G.2.1 ≤ v) (hnc : n < cap) (hcap : cap = 10 ∨ cap = 15) (hy : h y = some (0, .inr (2, fs))) : pd_Mv l y_AL_add3_n prog_31_method_24_code 4 rm_AL_add3_n G h [.ref x, .ref y, .ref v, .int (nI n)] (fun h1 => pd_kx [7, 8] h h1 ∧ ∃ (v2 cap2 : Nat) (g : Nat → Option Nat), h1 x = some (7, .inr (13, [.ref v2, .int (nI (n + 1)), .int (nI mc)])) ∧ h1 v2 = some (8, .inl (.object "java/lang/Object", cap2, .inr (.inr (.inr (.inr g))))) ∧ (cap2 = 10 ∨ cap2 = 15) ∧ n + 1 ≤ cap2 ∧ (∀ j, j < n → g j = f j) ∧ g n = some y ∧ G.2.1 ≤ v2) := by
  refine pd_Mv.of (by decide) (Nat.le_of_ble_eq_true rfl) ?_
  intro p e s m below meth c X hmn w ls hl
  have hx := X.1
  have hb := X.2.1
  have hl : lv_has ls 4 [(0, .ref x), (1, .ref y), (2, .ref v), (3, .int (nI n))] := hl
  refine lv_iload_n hx hb d_p31m24_0 rfl (lv_at hl 3 rfl) ?_
  refine lv_aload_n hx hb d_p31m24_1 rfl (lv_at hl 2 rfl) ?_
  refine pd_alen X w hv d_p31m24_2 ?_
  refine pd_jne (tgt := 11) hx hb d_p31m24_3 (by decide) (by omega) (by omega) (fun q1 => ?_) (fun q1 => ?_)
  · -- taken: 11
    refine lv_aload_n hx hb d_p31m24_11 rfl (lv_at hl 2 rfl) ?_
    refine lv_iload_n hx hb d_p31m24_12 rfl (lv_at hl 3 rfl) ?_
    refine lv_aload_n hx hb d_p31m24_13 rfl (lv_at hl 1 rfl) ?_
    refine pd_aast X w hv hz_v hy rfl (Or.inr mT_1499) (by omega) (by omega) d_p31m24_14 (fun H locs w => ?_)
    have w : pd_w G s H locs (pd_up h v (8, .inl ((.object "java/lang/Object"), cap, .inr (.inr (.inr (.inr (va_up f n (some y)))))))) := w
    obtain ⟨h2, u5⟩ : ∃ z, z = pd_up h v (8, .inl ((.object "java/lang/Object"), cap, .inr (.inr (.inr (.inr (va_up f n (some y))))))) := ⟨_, rfl⟩
    rw [← u5] at w
    have k3 : pd_kq v h h2 := by rw [u5]; exact pd_up_kq
    have f4 : h2 v = some (8, .inl ((.object "java/lang/Object"), cap, .inr (.inr (.inr (.inr (va_up f n (some y))))))) := by rw [u5]; exact pd_up_s _ _ _
    have f6 := k3 _ _ (pd_ne hx0 hv (by simp)) hx0
    have f7 := k3 _ _ (pd_ne hy hv (by simp)) hy
    refine lv_aload_n hx hb d_p31m24_15 rfl (lv_at hl 0 rfl) ?_
    refine lv_iload_n hx hb d_p31m24_16 rfl (lv_at hl 3 rfl) ?_
    refine lv_iconst (v := nI 1) hx hb d_p31m24_17 (by decide) ?_
    refine pd_iadd hx hb d_p31m24_18 ?_
    refine pd_put (ty := .int) X w f6 hz_x rfl 1 (by decide) mT_157 rfl rfl (by decide +kernel) rfl rfl (Nat.le_of_ble_eq_true rfl) d_p31m24_19 (fun H locs w => ?_)
    have w : pd_w G s H locs (pd_up h2 x (7, .inr (13, [.ref v, .int (nI (n + 1)), .int (nI mc)]))) := w
    obtain ⟨h8, u11⟩ : ∃ z, z = pd_up h2 x (7, .inr (13, [.ref v, .int (nI (n + 1)), .int (nI mc)])) := ⟨_, rfl⟩
    rw [← u11] at w
    have k9 : pd_kq x h2 h8 := by rw [u11]; exact pd_up_kq
    have f10 : h8 x = some (7, .inr (13, [.ref v, .int (nI (n + 1)), .int (nI mc)])) := by rw [u11]; exact pd_up_s _ _ _
    have f12 := k9 _ _ (pd_ne f7 f6 (by simp)) f7
    have f13 := k9 _ _ (pd_ne f4 f6 (by simp)) f4
    exact pd_vret X w ⟨pd_kx.mono (us := [7, 8]) (pd_kx.tr (pd_kx.mono (us := [8, 7]) (pd_kq.kx (k3) hv) (by simp)) (pd_kx.mono (us := [8, 7]) (pd_kq.kx (k9) f6) (by simp))) (by simp), _, _, _, f10, f13, by omega, by omega, (fun j hj => by unfold va_up; rw [if_neg (by omega)]), (by unfold va_up; rw [if_pos rfl]), hz_v⟩ (by decide) (by decide) d_p31m24_22
  · -- not taken: 6
    exfalso
    omega
abbrev y_AL_add3_10 : MethodName := ⟨"java/util/ArrayList", "add", "(Ljava/lang/Object;[Ljava/lang/Object;I)V"⟩
theorem ok_AL_add3_10 : pd_ok y_AL_add3_10 prog_31_method_24_code 4 none 3 := ⟨mT_197, mT_12, by decide, by decide +kernel⟩
abbrev rm_AL_add3_10 : Room := { frames := 5, cells := 1, slots := 15, locals := 127 }
set_option maxHeartbeats 4000000 in
set_option maxRecDepth 100000 in
theorem c_AL_add3_10 (l : Launch) (G : pd_G) (h : pd_H) {x y v mc : Nat} {f : Nat → Option Nat} {fs : List Value} (hx0 : h x = some (7, .inr (13, [.ref v, .int (nI 10), .int (nI mc)]))) (hv : h v = some (8, .inl (.object "java/lang/Object", 10, .inr (.inr (.inr (.inr f)))))) (hz_x : G.2.1 ≤ x) (hz_v : G.2.1 ≤ v) (hel : ∀ i, i < 10 → ∀ y, f i = some y → ∃ fs, h y = some (0, .inr (2, fs))) (hy : h y = some (0, .inr (2, fs))) : pd_Mv l y_AL_add3_10 prog_31_method_24_code 4 rm_AL_add3_10 G h [.ref x, .ref y, .ref v, .int (nI 10)] (fun h1 => pd_kx [7, 8] h h1 ∧ ∃ (v2 cap2 : Nat) (g : Nat → Option Nat), h1 x = some (7, .inr (13, [.ref v2, .int (nI (10 + 1)), .int (nI mc)])) ∧ h1 v2 = some (8, .inl (.object "java/lang/Object", cap2, .inr (.inr (.inr (.inr g))))) ∧ (cap2 = 10 ∨ cap2 = 15) ∧ 10 + 1 ≤ cap2 ∧ (∀ j, j < 10 → g j = f j) ∧ g 10 = some y ∧ G.2.1 ≤ v2) := by
  refine pd_Mv.of (by decide) (Nat.le_of_ble_eq_true rfl) ?_
  intro p e s m below meth c X hmn w ls hl
  have hx := X.1
  have hb := X.2.1
  have hl : lv_has ls 4 [(0, .ref x), (1, .ref y), (2, .ref v), (3, .int (nI 10))] := hl
  refine lv_iload_n hx hb d_p31m24_0 rfl (lv_at hl 3 rfl) ?_
  refine lv_aload_n hx hb d_p31m24_1 rfl (lv_at hl 2 rfl) ?_
  refine pd_alen X w hv d_p31m24_2 ?_
  refine pd_jne (tgt := 11) hx hb d_p31m24_3 (by decide) (by decide) (by decide) (fun q => absurd q (by decide)) (fun _ => ?_)
  refine lv_aload_n hx hb d_p31m24_6 rfl (lv_at hl 0 rfl) ?_
  refine pd_cV (a := x) (As := []) (rest := []) X w hx0 rfl (c_AL_grow2 l G h (by assumption) (by assumption) (by assumption) (by assumption) (by assumption)) ok_AL_grow2 ⟨mT_200, sT_1⟩ mT_198 ⟨by decide, by decide⟩ rfl hl.1 rfl (Nat.le_of_ble_eq_true rfl) d_p31m24_7 ⟨by decide, by decide⟩ (fun r2 h3 H locs hp4 w => ?_)
  refine W.widen (k := 1) (n := 15) (by decide) (by decide) ?_
  obtain ⟨k5, hz6, g9, f7, f8, gj10⟩ := hp4
  have f11 := k5 _ _ hy (show (0 : Nat) ∉ [7] by decide)
  have f12 := k5 _ _ hv (show (8 : Nat) ∉ [7] by decide)
  refine lv_astore_n (lv' := [(2, .ref r2), (0, .ref x), (1, .ref y), (3, .int (nI 10))]) hx hb d_p31m24_10 rfl hl (by decide) rfl (fun ls hl => ?_)
  refine lv_aload_n hx hb d_p31m24_11 rfl (lv_at hl 0 rfl) ?_
  refine lv_iload_n hx hb d_p31m24_12 rfl (lv_at hl 3 rfl) ?_
  refine lv_aload_n hx hb d_p31m24_13 rfl (lv_at hl 2 rfl) ?_
  refine pd_aast X w f8 hz6 f11 rfl (Or.inr mT_1499) (by omega) (by omega) d_p31m24_14 (fun H locs w => ?_)
  have w : pd_w G s H locs (pd_up h3 r2 (8, .inl ((.object "java/lang/Object"), 15, .inr (.inr (.inr (.inr (va_up g9 10 (some y)))))))) := w
  obtain ⟨h13, u16⟩ : ∃ z, z = pd_up h3 r2 (8, .inl ((.object "java/lang/Object"), 15, .inr (.inr (.inr (.inr (va_up g9 10 (some y))))))) := ⟨_, rfl⟩
  rw [← u16] at w
  have k14 : pd_kq r2 h3 h13 := by rw [u16]; exact pd_up_kq
  have f15 : h13 r2 = some (8, .inl ((.object "java/lang/Object"), 15, .inr (.inr (.inr (.inr (va_up g9 10 (some y))))))) := by rw [u16]; exact pd_up_s _ _ _
  have f17 := k14 _ _ (pd_ne f11 f8 (by simp)) f11
  have f18 := k14 _ _ (pd_ne f7 f8 (by simp)) f7
  have f19 := k14 _ _ (pd_ne f12 f8 (by simp)) f12
  refine lv_aload_n hx hb d_p31m24_15 rfl (lv_at hl 1 rfl) ?_
  refine lv_iload_n hx hb d_p31m24_16 rfl (lv_at hl 3 rfl) ?_
  refine lv_iconst (v := nI 1) hx hb d_p31m24_17 (by decide) ?_
  refine pd_iadd hx hb d_p31m24_18 ?_
  refine pd_put (ty := .int) X w f18 hz_x rfl 1 (by decide) mT_157 rfl rfl (by decide +kernel) rfl rfl (Nat.le_of_ble_eq_true rfl) d_p31m24_19 (fun H locs w => ?_)
  have w : pd_w G s H locs (pd_up h13 x (7, .inr (13, [.ref r2, .int (nI 11), .int (nI mc)]))) := w
  obtain ⟨h20, u23⟩ : ∃ z, z = pd_up h13 x (7, .inr (13, [.ref r2, .int (nI 11), .int (nI mc)])) := ⟨_, rfl⟩
  rw [← u23] at w
  have k21 : pd_kq x h13 h20 := by rw [u23]; exact pd_up_kq
  have f22 : h20 x = some (7, .inr (13, [.ref r2, .int (nI 11), .int (nI mc)])) := by rw [u23]; exact pd_up_s _ _ _
  have f24 := k21 _ _ (pd_ne f17 f18 (by simp)) f17
  have f25 := k21 _ _ (pd_ne f19 f18 (by simp)) f19
  have f26 := k21 _ _ (pd_ne f15 f18 (by simp)) f15
  exact pd_vret X w ⟨pd_kx.tr (pd_kx.tr (pd_kx.mono (us := [7, 8]) (k5) (by simp)) (pd_kx.mono (us := [7, 8]) (pd_kq.kx (k14) f8) (by simp))) (pd_kx.mono (us := [7, 8]) (pd_kq.kx (k21) f18) (by simp)), _, _, _, f22, f26, by omega, by omega, (fun j hj => by rw [show va_up g9 10 (some y) j = g9 j by unfold va_up; rw [if_neg (by omega)]]; exact gj10 j hj), (by unfold va_up; rw [if_pos rfl]), hz6⟩ (by decide) (by decide) d_p31m24_22
def pd_ALs : Prop := True
theorem d_p31m25_0 : decode prog_31_method_25_code 0 = .ok (.aload_n 0, 1) := by decide +kernel
theorem d_p31m25_1 : decode prog_31_method_25_code 1 = .ok (.dup, 1) := by decide +kernel
theorem d_p31m25_2 : decode prog_31_method_25_code 2 = .ok (.getfield 63, 3) := by decide +kernel
theorem d_p31m25_5 : decode prog_31_method_25_code 5 = .ok (.iconst 1, 1) := by decide +kernel
theorem d_p31m25_6 : decode prog_31_method_25_code 6 = .ok (.iadd, 1) := by decide +kernel
theorem d_p31m25_7 : decode prog_31_method_25_code 7 = .ok (.putfield 63, 3) := by decide +kernel
theorem d_p31m25_10 : decode prog_31_method_25_code 10 = .ok (.aload_n 0, 1) := by decide +kernel
theorem d_p31m25_11 : decode prog_31_method_25_code 11 = .ok (.aload_n 1, 1) := by decide +kernel
theorem d_p31m25_12 : decode prog_31_method_25_code 12 = .ok (.aload_n 0, 1) := by decide +kernel
theorem d_p31m25_13 : decode prog_31_method_25_code 13 = .ok (.getfield 9, 3) := by decide +kernel
theorem d_p31m25_16 : decode prog_31_method_25_code 16 = .ok (.aload_n 0, 1) := by decide +kernel
theorem d_p31m25_17 : decode prog_31_method_25_code 17 = .ok (.getfield 48, 3) := by decide +kernel
theorem d_p31m25_20 : decode prog_31_method_25_code 20 = .ok (.invokevirtual 131, 3) := by decide +kernel
theorem d_p31m25_23 : decode prog_31_method_25_code 23 = .ok (.iconst 1, 1) := by decide +kernel
theorem d_p31m25_24 : decode prog_31_method_25_code 24 = .ok (.ireturn, 1) := by decide +kernel
abbrev y_AL_add_0 : MethodName := ⟨"java/util/ArrayList", "add", "(Ljava/lang/Object;)Z"⟩
theorem ok_AL_add_0 : pd_ok y_AL_add_0 prog_31_method_25_code 2 (some .boolean) 1 := ⟨mT_193, mT_12, by decide, by decide +kernel⟩
abbrev rm_AL_add_0 : Room := { frames := 6, cells := 1, slots := 15, locals := 150 }
set_option maxHeartbeats 4000000 in
set_option maxRecDepth 100000 in
theorem c_AL_add_0 (l : Launch) (G : pd_G) (h : pd_H) {x y mc : Nat} {f : Nat → Option Nat} {fs : List Value} (hx0 : h x = some (7, .inr (13, [.ref (G.2.2.2 0), .int (nI 0), .int (nI mc)]))) (hz_x : G.2.1 ≤ x) (hy : h y = some (0, .inr (2, fs))) : pd_M l y_AL_add_0 prog_31_method_25_code 2 (some .boolean) rm_AL_add_0 G h [.ref x, .ref y] pd_vb (fun r h1 => r = true ∧ pd_kx [7, 8] h h1 ∧ ∃ (v2 cap2 : Nat) (g : Nat → Option Nat), h1 x = some (7, .inr (13, [.ref v2, .int (nI (0 + 1)), .int (nI (mc + 1))])) ∧ h1 v2 = some (8, .inl (.object "java/lang/Object", cap2, .inr (.inr (.inr (.inr g))))) ∧ (cap2 = 10 ∨ cap2 = 15) ∧ 0 + 1 ≤ cap2 ∧ (∀ j, j < 0 → g j = f j) ∧ g 0 = some y ∧ G.2.1 ≤ v2) := by
  refine pd_M.of (by decide) (Nat.le_of_ble_eq_true rfl) ?_
  intro p e s m below meth c X hmn w ls hl
  have hx := X.1
  have hb := X.2.1
  have hl : lv_has ls 2 [(0, .ref x), (1, .ref y)] := hl
  refine lv_aload_n hx hb d_p31m25_0 rfl (lv_at hl 0 rfl) ?_
  refine lv_dup hx hb d_p31m25_1 rfl ?_
  refine pd_getS X w hx0 rfl 2 (by decide) mT_159 mT_160 rfl d_p31m25_2 ?_
  refine lv_iconst (v := nI 1) hx hb d_p31m25_5 (by decide) ?_
  refine pd_iadd hx hb d_p31m25_6 ?_
  refine pd_putS (ty := .int) X w hx0 hz_x rfl 2 (by decide) mT_159 mT_160 rfl (by decide +kernel) rfl rfl (Nat.le_of_ble_eq_true rfl) d_p31m25_7 (fun H locs w => ?_)
  have w : pd_w G s H locs (pd_up h x (7, .inr (13, [.ref (G.2.2.2 0), .int (nI 0), .int (nI (mc + 1))]))) := w
  obtain ⟨h1, u4⟩ : ∃ z, z = pd_up h x (7, .inr (13, [.ref (G.2.2.2 0), .int (nI 0), .int (nI (mc + 1))])) := ⟨_, rfl⟩
  rw [← u4] at w
  have k2 : pd_kq x h h1 := by rw [u4]; exact pd_up_kq
  have f3 : h1 x = some (7, .inr (13, [.ref (G.2.2.2 0), .int (nI 0), .int (nI (mc + 1))])) := by rw [u4]; exact pd_up_s _ _ _
  have f5 := k2 _ _ (pd_ne hy hx0 (by simp)) hy
  refine lv_aload_n hx hb d_p31m25_10 rfl (lv_at hl 0 rfl) ?_
  refine lv_aload_n hx hb d_p31m25_11 rfl (lv_at hl 1 rfl) ?_
  refine lv_aload_n hx hb d_p31m25_12 rfl (lv_at hl 0 rfl) ?_
  refine pd_get X w f3 rfl 0 (by decide) mT_156 rfl rfl d_p31m25_13 ?_
  refine lv_aload_n hx hb d_p31m25_16 rfl (lv_at hl 0 rfl) ?_
  refine pd_get X w f3 rfl 1 (by decide) mT_157 rfl rfl d_p31m25_17 ?_
  refine pd_cVv (a := x) (As := [.ref y, .ref (G.2.2.2 0), .int (nI 0)]) (rest := []) X w f3 rfl (c_AL_add3_0 l G h1 (f := f) (by assumption) (by assumption) (by assumption)) ok_AL_add3_0 ⟨mT_196, sT_0⟩ mT_194 ⟨by decide, by decide⟩ rfl hl.1 rfl (Nat.le_of_ble_eq_true rfl) d_p31m25_20 ⟨by decide, by decide⟩ (fun h7 H locs hp8 w => ?_)
  refine W.widen (k := 1) (n := 10) (by decide) (by decide) ?_
  obtain ⟨k9, v10, cap11, g12, f13, f14, q15, q16, q17, q18, hz19⟩ := hp8
  have f20 := k9 _ _ f5 (show (0 : Nat) ∉ [7, 8] by decide)
  refine lv_iconst (v := nI 1) hx hb d_p31m25_23 (by decide) ?_
  refine W.eq (g2 := F0 m 24 ls [.int (pd_b true)]) rfl ?_
  exact pd_zret (v := true) X w ⟨rfl, pd_kx.tr (pd_kx.mono (us := [7, 8]) (pd_kq.kx (k2) hx0) (by simp)) (k9), _, _, _, f13, f14, q15, q16, q17, q18, hz19⟩ (by decide) (by decide) d_p31m25_24
abbrev y_AL_add_n : MethodName := ⟨"java/util/ArrayList", "add", "(Ljava/lang/Object;)Z"⟩
theorem ok_AL_add_n : pd_ok y_AL_add_n prog_31_method_25_code 2 (some .boolean) 1 := ⟨mT_193, mT_12, by decide, by decide +kernel⟩
abbrev rm_AL_add_n : Room := { frames := 6, cells := 1, slots := 15, locals := 150 }
set_option maxHeartbeats 4000000 in
set_option maxRecDepth 100000 in
theorem c_AL_add_n (l : Launch) (G : pd_G) (h : pd_H) {x y v cap n mc : Nat} {f : Nat → Option Nat} {fs : List Value} (hx0 : h x = some (7, .inr (13, [.ref v, .int (nI n), .int (nI mc)]))) (hv : h v = some (8, .inl (.object "java/lang/Object", cap, .inr (.inr (.inr (.inr f)))))) (hz_x : G.2.1 ≤ x) (hz_v : G.2.1 ≤ v) (hnc : n < cap) (hcap : cap = 10 ∨ cap = 15) (hy : h y = some (0, .inr (2, fs))) : pd_M l y_AL_add_n prog_31_method_25_code 2 (some .boolean) rm_AL_add_n G h [.ref x, .ref y] pd_vb (fun r h1 => r = true ∧ pd_kx [7, 8] h h1 ∧ ∃ (v2 cap2 : Nat) (g : Nat → Option Nat), h1 x = some (7, .inr (13, [.ref v2, .int (nI (n + 1)), .int (nI (mc + 1))])) ∧ h1 v2 = some (8, .inl (.object "java/lang/Object", cap2, .inr (.inr (.inr (.inr g))))) ∧ (cap2 = 10 ∨ cap2 = 15) ∧ n + 1 ≤ cap2 ∧ (∀ j, j < n → g j = f j) ∧ g n = some y ∧ G.2.1 ≤ v2) := by
  refine pd_M.of (by decide) (Nat.le_of_ble_eq_true rfl) ?_
  intro p e s m below meth c X hmn w ls hl
  have hx := X.1
  have hb := X.2.1
  have hl : lv_has ls 2 [(0, .ref x), (1, .ref y)] := hl
  refine lv_aload_n hx hb d_p31m25_0 rfl (lv_at hl 0 rfl) ?_
  refine lv_dup hx hb d_p31m25_1 rfl ?_
  refine pd_getS X w hx0 rfl 2 (by decide) mT_159 mT_160 rfl d_p31m25_2 ?_
  refine lv_iconst (v := nI 1) hx hb d_p31m25_5 (by decide) ?_
  refine pd_iadd hx hb d_p31m25_6 ?_
  refine pd_putS (ty := .int) X w hx0 hz_x rfl 2 (by decide) mT_159 mT_160 rfl (by decide +kernel) rfl rfl (Nat.le_of_ble_eq_true rfl) d_p31m25_7 (fun H locs w => ?_)
  have w : pd_w G s H locs (pd_up h x (7, .inr (13, [.ref v, .int (nI n), .int (nI (mc + 1))]))) := w
  obtain ⟨h1, u4⟩ : ∃ z, z = pd_up h x (7, .inr (13, [.ref v, .int (nI n), .int (nI (mc + 1))])) := ⟨_, rfl⟩
  rw [← u4] at w
  have k2 : pd_kq x h h1 := by rw [u4]; exact pd_up_kq
  have f3 : h1 x = some (7, .inr (13, [.ref v, .int (nI n), .int (nI (mc + 1))])) := by rw [u4]; exact pd_up_s _ _ _
  have f5 := k2 _ _ (pd_ne hy hx0 (by simp)) hy
  have f6 := k2 _ _ (pd_ne hv hx0 (by simp)) hv
  refine lv_aload_n hx hb d_p31m25_10 rfl (lv_at hl 0 rfl) ?_
  refine lv_aload_n hx hb d_p31m25_11 rfl (lv_at hl 1 rfl) ?_
  refine lv_aload_n hx hb d_p31m25_12 rfl (lv_at hl 0 rfl) ?_
  refine pd_get X w f3 rfl 0 (by decide) mT_156 rfl rfl d_p31m25_13 ?_
  refine lv_aload_n hx hb d_p31m25_16 rfl (lv_at hl 0 rfl) ?_
  refine pd_get X w f3 rfl 1 (by decide) mT_157 rfl rfl d_p31m25_17 ?_
  refine pd_cVv (a := x) (As := [.ref y, .ref v, .int (nI n)]) (rest := []) X w f3 rfl (c_AL_add3_n l G h1 (f := f) (by assumption) (by assumption) (by assumption) (by assumption) (by omega) (by assumption) (by assumption)) ok_AL_add3_n ⟨mT_196, sT_0⟩ mT_194 ⟨by decide, by decide⟩ rfl hl.1 rfl (Nat.le_of_ble_eq_true rfl) d_p31m25_20 ⟨by decide, by decide⟩ (fun h8 H locs hp9 w => ?_)
  refine W.widen (k := 0) (n := 0) (by decide) (by decide) ?_
  obtain ⟨k10, v11, cap12, g13, f14, f15, q16, q17, q18, q19, hz20⟩ := hp9
  have f21 := k10 _ _ f5 (show (0 : Nat) ∉ [7, 8] by decide)
  refine lv_iconst (v := nI 1) hx hb d_p31m25_23 (by decide) ?_
  refine W.eq (g2 := F0 m 24 ls [.int (pd_b true)]) rfl ?_
  exact pd_zret (v := true) X w ⟨rfl, pd_kx.tr (pd_kx.mono (us := [7, 8]) (pd_kq.kx (k2) hx0) (by simp)) (k10), _, _, _, f14, f15, q16, q17, q18, q19, hz20⟩ (by decide) (by decide) d_p31m25_24
abbrev y_AL_add_10 : MethodName := ⟨"java/util/ArrayList", "add", "(Ljava/lang/Object;)Z"⟩
theorem ok_AL_add_10 : pd_ok y_AL_add_10 prog_31_method_25_code 2 (some .boolean) 1 := ⟨mT_193, mT_12, by decide, by decide +kernel⟩
abbrev rm_AL_add_10 : Room := { frames := 6, cells := 1, slots := 15, locals := 150 }
set_option maxHeartbeats 4000000 in
set_option maxRecDepth 100000 in
theorem c_AL_add_10 (l : Launch) (G : pd_G) (h : pd_H) {x y v mc : Nat} {f : Nat → Option Nat} {fs : List Value} (hx0 : h x = some (7, .inr (13, [.ref v, .int (nI 10), .int (nI mc)]))) (hv : h v = some (8, .inl (.object "java/lang/Object", 10, .inr (.inr (.inr (.inr f)))))) (hz_x : G.2.1 ≤ x) (hz_v : G.2.1 ≤ v) (hel : ∀ i, i < 10 → ∀ y, f i = some y → ∃ fs, h y = some (0, .inr (2, fs))) (hy : h y = some (0, .inr (2, fs))) : pd_M l y_AL_add_10 prog_31_method_25_code 2 (some .boolean) rm_AL_add_10 G h [.ref x, .ref y] pd_vb (fun r h1 => r = true ∧ pd_kx [7, 8] h h1 ∧ ∃ (v2 cap2 : Nat) (g : Nat → Option Nat), h1 x = some (7, .inr (13, [.ref v2, .int (nI (10 + 1)), .int (nI (mc + 1))])) ∧ h1 v2 = some (8, .inl (.object "java/lang/Object", cap2, .inr (.inr (.inr (.inr g))))) ∧ (cap2 = 10 ∨ cap2 = 15) ∧ 10 + 1 ≤ cap2 ∧ (∀ j, j < 10 → g j = f j) ∧ g 10 = some y ∧ G.2.1 ≤ v2) := by
  refine pd_M.of (by decide) (Nat.le_of_ble_eq_true rfl) ?_
  intro p e s m below meth c X hmn w ls hl
  have hx := X.1
  have hb := X.2.1
  have hl : lv_has ls 2 [(0, .ref x), (1, .ref y)] := hl
  refine lv_aload_n hx hb d_p31m25_0 rfl (lv_at hl 0 rfl) ?_
  refine lv_dup hx hb d_p31m25_1 rfl ?_
  refine pd_getS X w hx0 rfl 2 (by decide) mT_159 mT_160 rfl d_p31m25_2 ?_
  refine lv_iconst (v := nI 1) hx hb d_p31m25_5 (by decide) ?_
  refine pd_iadd hx hb d_p31m25_6 ?_
  refine pd_putS (ty := .int) X w hx0 hz_x rfl 2 (by decide) mT_159 mT_160 rfl (by decide +kernel) rfl rfl (Nat.le_of_ble_eq_true rfl) d_p31m25_7 (fun H locs w => ?_)
  have w : pd_w G s H locs (pd_up h x (7, .inr (13, [.ref v, .int (nI 10), .int (nI (mc + 1))]))) := w
  obtain ⟨h1, u4⟩ : ∃ z, z = pd_up h x (7, .inr (13, [.ref v, .int (nI 10), .int (nI (mc + 1))])) := ⟨_, rfl⟩
  rw [← u4] at w
  have k2 : pd_kq x h h1 := by rw [u4]; exact pd_up_kq
  have f3 : h1 x = some (7, .inr (13, [.ref v, .int (nI 10), .int (nI (mc + 1))])) := by rw [u4]; exact pd_up_s _ _ _
  have f5 := k2 _ _ (pd_ne hy hx0 (by simp)) hy
  have f6 := k2 _ _ (pd_ne hv hx0 (by simp)) hv
  refine lv_aload_n hx hb d_p31m25_10 rfl (lv_at hl 0 rfl) ?_
  refine lv_aload_n hx hb d_p31m25_11 rfl (lv_at hl 1 rfl) ?_
  refine lv_aload_n hx hb d_p31m25_12 rfl (lv_at hl 0 rfl) ?_
  refine pd_get X w f3 rfl 0 (by decide) mT_156 rfl rfl d_p31m25_13 ?_
  refine lv_aload_n hx hb d_p31m25_16 rfl (lv_at hl 0 rfl) ?_
  refine pd_get X w f3 rfl 1 (by decide) mT_157 rfl rfl d_p31m25_17 ?_
  refine pd_cVv (a := x) (As := [.ref y, .ref v, .int (nI 10)]) (rest := []) X w f3 rfl (c_AL_add3_10 l G h1 (f := f) (by assumption) (by assumption) (by assumption) (by assumption) (fun i hi y hy => by obtain ⟨fs, hf⟩ := hel i hi y hy; exact ⟨fs, k2 _ _ (pd_ne hf hx0 (by simp)) hf⟩) (by assumption)) ok_AL_add3_10 ⟨mT_196, sT_0⟩ mT_194 ⟨by decide, by decide⟩ rfl hl.1 rfl (Nat.le_of_ble_eq_true rfl) d_p31m25_20 ⟨by decide, by decide⟩ (fun h8 H locs hp9 w => ?_)
  refine W.widen (k := 1) (n := 15) (by decide) (by decide) ?_
  obtain ⟨k10, v11, cap12, g13, f14, f15, q16, q17, q18, q19, hz20⟩ := hp9
  have f21 := k10 _ _ f5 (show (0 : Nat) ∉ [7, 8] by decide)
  refine lv_iconst (v := nI 1) hx hb d_p31m25_23 (by decide) ?_
  refine W.eq (g2 := F0 m 24 ls [.int (pd_b true)]) rfl ?_
  exact pd_zret (v := true) X w ⟨rfl, pd_kx.tr (pd_kx.mono (us := [7, 8]) (pd_kq.kx (k2) hx0) (by simp)) (k10), _, _, _, f14, f15, q16, q17, q18, q19, hz20⟩ (by decide) (by decide) d_p31m25_24
theorem pd_AL.app {G : pd_G} {h h1 : pd_H} {x y v2 cap2 : Nat} {xs : List Nat} {f g : Nat → Option Nat} {fs : List Value} (k : pd_kx [7, 8] h h1) (hf : ∀ j, j < xs.length → f j = some (xs.getD j 0)) (hr : ∀ z ∈ xs, ∃ fs, h z = some (0, .inr (2, fs))) (hy : h y = some (0, .inr (2, fs))) (hz : G.2.1 ≤ x) (q1 : h1 x = some (7, .inr (13, [.ref v2, .int (nI (xs.length + 1)), .int (nI (xs.length + 1))]))) (q2 : h1 v2 = some (8, .inl (.object "java/lang/Object", cap2, .inr (.inr (.inr (.inr g)))))) (q3 : cap2 = 10 ∨ cap2 = 15) (q4 : xs.length + 1 ≤ cap2) (q5 : ∀ j, j < xs.length → g j = f j) (q6 : g xs.length = some y) (q7 : G.2.1 ≤ v2) : pd_AL G h1 x 7 8 (xs ++ [y]) := by
  refine ⟨v2, cap2, g, (by rw [List.length_append]; exact q1), Or.inr ⟨q3, q7, q2⟩, (by rw [List.length_append]; exact q4), fun j hj => ?_, fun z hz2 => ?_, hz⟩
  · rw [List.length_append] at hj
    by_cases e : j = xs.length
    · subst e
      rw [q6, tx_app_get2 (Nat.le_refl _), Nat.sub_self]
      rfl
    · have hlt : j < xs.length := by simp at hj; omega
      rw [q5 j hlt, hf j hlt, tx_app_get hlt]
  · rcases List.mem_append.mp hz2 with e | e
    · obtain ⟨gs, hg⟩ := hr z e
      exact ⟨gs, k _ _ hg (by show (0 : Nat) ∉ [7, 8]; decide)⟩
    · rw [List.mem_singleton.mp e]
      exact ⟨fs, k _ _ hy (by show (0 : Nat) ∉ [7, 8]; decide)⟩
abbrev rm_AL_add : Room := rm_AL_add_0
abbrev y_AL_add : MethodName := y_AL_add_0
theorem ok_AL_add : pd_ok y_AL_add prog_31_method_25_code 2 (some .boolean) 1 := ok_AL_add_0
theorem c_AL_add (l : Launch) (G : pd_G) (h : pd_H) {x y : Nat} {xs : List Nat} {fs : List Value} (hA : pd_AL G h x 7 8 xs) (hy : h y = some (0, .inr (2, fs))) (hxl : xs.length ≤ 12) : pd_M l y_AL_add prog_31_method_25_code 2 (some .boolean) rm_AL_add G h [.ref x, .ref y] pd_vb (fun r h1 => r = true ∧ pd_kx [7, 8] h h1 ∧ pd_AL G h1 x 7 8 (xs ++ [y])) := by
  obtain ⟨v, cap, f, h1, h2, h3, h4, h5, h6⟩ := hA
  rcases h2 with ⟨e1, e2⟩ | ⟨e1, e2, e3⟩
  · have hl0 : xs = [] := List.eq_nil_of_length_eq_zero (by omega)
    subst hl0 e2
    exact pd_M.mono (fun r h' ⟨r0, k, v2, c2, g, q1, q2, q3, q4, q5, q6, q7⟩ => ⟨r0, k, pd_AL.app (f := f) k h4 h5 hy h6 q1 q2 q3 q4 q5 q6 q7⟩) (c_AL_add_0 l G h (mc := 0) (f := f) h1 h6 hy)
  · by_cases hl : xs.length < cap
    · exact pd_M.mono (fun r h' ⟨r0, k, v2, c2, g, q1, q2, q3, q4, q5, q6, q7⟩ => ⟨r0, k, pd_AL.app (f := f) k h4 h5 hy h6 q1 q2 q3 q4 q5 q6 q7⟩) (c_AL_add_n l G h h1 e3 h6 e2 hl e1 hy)
    · have hc : cap = 10 := by omega
      have hl10 : xs.length = 10 := by omega
      subst hc
      exact pd_M.mono (fun r h' ⟨r0, k, v2, c2, g, q1, q2, q3, q4, q5, q6, q7⟩ => ⟨r0, k, pd_AL.app (f := f) k h4 h5 hy h6 (by rw [hl10]; exact q1) q2 q3 (by rw [hl10]; exact q4) (by rw [hl10]; exact q5) (by rw [hl10]; exact q6) q7⟩) (c_AL_add_10 l G h (mc := 10) (by rw [hl10] at h1; exact h1) e3 h6 e2 (fun i hi y' hy' => h5 y' (by have z := h4 i (by omega); rw [hy'] at z; rw [Option.some.inj z, List.getD_eq_getElem?_getD, List.getElem?_eq_getElem (by omega)]; exact List.getElem_mem (by omega))) hy)
theorem d_p31m8_0 : decode prog_31_method_8_code 0 = .ok (.aload_n 0, 1) := by decide +kernel
theorem d_p31m8_1 : decode prog_31_method_8_code 1 = .ok (.getfield 48, 3) := by decide +kernel
theorem d_p31m8_4 : decode prog_31_method_8_code 4 = .ok (.ireturn, 1) := by decide +kernel
abbrev y_AL_size : MethodName := ⟨"java/util/ArrayList", "size", "()I"⟩
theorem ok_AL_size : pd_ok y_AL_size prog_31_method_8_code 1 (some .int) 0 := ⟨mT_177, mT_12, by decide, by decide +kernel⟩
abbrev rm_AL_size : Room := { frames := 0, cells := 0, slots := 0, locals := 0 }
set_option maxHeartbeats 4000000 in
set_option maxRecDepth 100000 in
theorem c_AL_size (l : Launch) (G : pd_G) (h : pd_H) {x t1 t2 : Nat} {xs : List Nat} (hA : pd_AL G h x t1 t2 xs) : pd_M l y_AL_size prog_31_method_8_code 1 (some .int) rm_AL_size G h [.ref x] pd_vn (fun r h1 => r = xs.length ∧ h = h1) := by
  refine pd_M.of (by decide) (Nat.le_of_ble_eq_true rfl) ?_
  intro p e s m below meth c X hmn w ls hl
  have hx := X.1
  have hb := X.2.1
  have hl : lv_has ls 1 [(0, .ref x)] := hl
  obtain ⟨v, cap, f, hx0, hcv, hxc, hfj, hrw, hz_x⟩ := id hA
  refine lv_aload_n hx hb d_p31m8_0 rfl (lv_at hl 0 rfl) ?_
  refine pd_get X w hx0 rfl 1 (by decide) mT_157 rfl rfl d_p31m8_1 ?_
  exact pd_nret (v := xs.length) X w ⟨rfl, rfl⟩ (by decide) (by decide) d_p31m8_4
theorem d_p35m17_0 : decode prog_35_method_17_code 0 = .ok (.iload_n 0, 1) := by decide +kernel
theorem d_p35m17_1 : decode prog_35_method_17_code 1 = .ok (.iload_n 1, 1) := by decide +kernel
theorem d_p35m17_2 : decode prog_35_method_17_code 2 = .ok (.aconst_null, 1) := by decide +kernel
theorem d_p35m17_3 : decode prog_35_method_17_code 3 = .ok (.invokestatic 105, 3) := by decide +kernel
theorem d_p35m17_6 : decode prog_35_method_17_code 6 = .ok (.ireturn, 1) := by decide +kernel
abbrev y_Objects_checkIndex : MethodName := ⟨"java/util/Objects", "checkIndex", "(II)I"⟩
theorem ok_Objects_checkIndex : pd_ok y_Objects_checkIndex prog_35_method_17_code 2 (some .int) 2 := ⟨mT_184, mT_13, by decide, by decide +kernel⟩
abbrev rm_Objects_checkIndex : Room := { frames := 1, cells := 0, slots := 0, locals := 22 }
set_option maxHeartbeats 4000000 in
set_option maxRecDepth 100000 in
theorem c_Objects_checkIndex (l : Launch) (G : pd_G) (h : pd_H) {x y : Nat} (hxy : x < y) (hy1 : y < 2 ^ 31) : pd_M l y_Objects_checkIndex prog_35_method_17_code 2 (some .int) rm_Objects_checkIndex G h [.int (nI x), .int (nI y)] pd_vn (fun r h1 => r = x ∧ h = h1) := by
  refine pd_M.of (by decide) (Nat.le_of_ble_eq_true rfl) ?_
  intro p e s m below meth c X hmn w ls hl
  have hx := X.1
  have hb := X.2.1
  have hl : lv_has ls 2 [(0, .int (nI x)), (1, .int (nI y))] := hl
  refine lv_iload_n hx hb d_p35m17_0 rfl (lv_at hl 0 rfl) ?_
  refine lv_iload_n hx hb d_p35m17_1 rfl (lv_at hl 1 rfl) ?_
  refine lv_null hx hb d_p35m17_2 ?_
  refine pd_cS (As := [.int (nI x), .int (nI y), .null]) (rest := []) X w (c_Preconditions_checkIndex l G h (fm := none) (by omega) (by omega)) ok_Preconditions_checkIndex mT_118 mT_185 ⟨by decide, by decide⟩ rfl hl.1 rfl (Nat.le_of_ble_eq_true rfl) d_p35m17_3 ⟨by decide, by decide⟩ (fun r1 h2 H locs hp3 w => ?_)
  refine W.widen (k := 0) (n := 0) (by decide) (by decide) ?_
  obtain ⟨e4, rfl⟩ := hp3
  exact pd_nret (v := r1) X w ⟨by assumption, rfl⟩ (by decide) (by decide) d_p35m17_6
theorem d_p31m18_0 : decode prog_31_method_18_code 0 = .ok (.aload_n 0, 1) := by decide +kernel
theorem d_p31m18_1 : decode prog_31_method_18_code 1 = .ok (.getfield 9, 3) := by decide +kernel
theorem d_p31m18_4 : decode prog_31_method_18_code 4 = .ok (.iload_n 1, 1) := by decide +kernel
theorem d_p31m18_5 : decode prog_31_method_18_code 5 = .ok (.aaload, 1) := by decide +kernel
theorem d_p31m18_6 : decode prog_31_method_18_code 6 = .ok (.areturn, 1) := by decide +kernel
abbrev y_AL_elementData : MethodName := ⟨"java/util/ArrayList", "elementData", "(I)Ljava/lang/Object;"⟩
theorem ok_AL_elementData : pd_ok y_AL_elementData prog_31_method_18_code 2 (some (.object "java/lang/Object")) 1 := ⟨mT_189, mT_12, by decide, by decide +kernel⟩
abbrev rm_AL_elementData : Room := { frames := 0, cells := 0, slots := 0, locals := 0 }
set_option maxHeartbeats 4000000 in
set_option maxRecDepth 100000 in
theorem c_AL_elementData (l : Launch) (G : pd_G) (h : pd_H) {x t1 t2 i : Nat} {xs : List Nat} (hA : pd_AL G h x t1 t2 xs) (hi : i < xs.length) : pd_M l y_AL_elementData prog_31_method_18_code 2 (some (.object "java/lang/Object")) rm_AL_elementData G h [.ref x, .int (nI i)] Value.ref (fun r h1 => r = xs.getD i 0 ∧ h = h1) := by
  refine pd_M.of (by decide) (Nat.le_of_ble_eq_true rfl) ?_
  intro p e s m below meth c X hmn w ls hl
  have hx := X.1
  have hb := X.2.1
  have hl : lv_has ls 2 [(0, .ref x), (1, .int (nI i))] := hl
  obtain ⟨v, cap, f, hx0, hcv, hxc, hfj, hrw, hz_x⟩ := id hA
  refine lv_aload_n hx hb d_p31m18_0 rfl (lv_at hl 0 rfl) ?_
  refine pd_get X w hx0 rfl 0 (by decide) mT_156 rfl rfl d_p31m18_1 ?_
  have hv : h v = some (t2, .inl (.object "java/lang/Object", cap, .inr (.inr (.inr (.inr f))))) := by rcases hcv with z | z; omega; exact z.2.2
  have hc15 : cap ≤ 15 := by rcases hcv with z | z <;> omega
  refine lv_iload_n hx hb d_p31m18_4 rfl (lv_at hl 1 rfl) ?_
  refine pd_aald X w hv rfl (by omega) (by omega) d_p31m18_5 ?_
  refine pd_top (v' := .ref (xs.getD i 0)) (by rw [hfj i hi]; rfl) ?_
  exact pd_aret (v := (xs.getD i 0)) X (Or.inl ⟨_, rfl⟩) w ⟨rfl, rfl⟩ (by decide) (by decide) d_p31m18_6
theorem d_p31m20_0 : decode prog_31_method_20_code 0 = .ok (.iload_n 1, 1) := by decide +kernel
theorem d_p31m20_1 : decode prog_31_method_20_code 1 = .ok (.aload_n 0, 1) := by decide +kernel
theorem d_p31m20_2 : decode prog_31_method_20_code 2 = .ok (.getfield 48, 3) := by decide +kernel
theorem d_p31m20_5 : decode prog_31_method_20_code 5 = .ok (.invokestatic 118, 3) := by decide +kernel
theorem d_p31m20_8 : decode prog_31_method_20_code 8 = .ok (.pop, 1) := by decide +kernel
theorem d_p31m20_9 : decode prog_31_method_20_code 9 = .ok (.aload_n 0, 1) := by decide +kernel
theorem d_p31m20_10 : decode prog_31_method_20_code 10 = .ok (.iload_n 1, 1) := by decide +kernel
theorem d_p31m20_11 : decode prog_31_method_20_code 11 = .ok (.invokevirtual 123, 3) := by decide +kernel
theorem d_p31m20_14 : decode prog_31_method_20_code 14 = .ok (.areturn, 1) := by decide +kernel
abbrev y_AL_get : MethodName := ⟨"java/util/ArrayList", "get", "(I)Ljava/lang/Object;"⟩
theorem ok_AL_get : pd_ok y_AL_get prog_31_method_20_code 2 (some (.object "java/lang/Object")) 1 := ⟨mT_181, mT_12, by decide, by decide +kernel⟩
abbrev rm_AL_get : Room := { frames := 2, cells := 0, slots := 0, locals := 43 }
set_option maxHeartbeats 4000000 in
set_option maxRecDepth 100000 in
theorem c_AL_get (l : Launch) (G : pd_G) (h : pd_H) {x t1 t2 i : Nat} {xs : List Nat} (hA : pd_AL G h x t1 t2 xs) (hi : i < xs.length) : pd_M l y_AL_get prog_31_method_20_code 2 (some (.object "java/lang/Object")) rm_AL_get G h [.ref x, .int (nI i)] Value.ref (fun r h1 => xs.getD i 0 = r ∧ h = h1) := by
  refine pd_M.of (by decide) (Nat.le_of_ble_eq_true rfl) ?_
  intro p e s m below meth c X hmn w ls hl
  have hx := X.1
  have hb := X.2.1
  have hl : lv_has ls 2 [(0, .ref x), (1, .int (nI i))] := hl
  obtain ⟨v, cap, f, hx0, hcv, hxc, hfj, hrw, hz_x⟩ := id hA
  have hc15 : cap ≤ 15 := by rcases hcv with z | z <;> omega
  refine lv_iload_n hx hb d_p31m20_0 rfl (lv_at hl 1 rfl) ?_
  refine lv_aload_n hx hb d_p31m20_1 rfl (lv_at hl 0 rfl) ?_
  refine pd_get X w hx0 rfl 1 (by decide) mT_157 rfl rfl d_p31m20_2 ?_
  refine pd_cS (As := [.int (nI i), .int (nI xs.length)]) (rest := []) X w (c_Objects_checkIndex l G h (by omega) (by omega)) ok_Objects_checkIndex mT_183 mT_182 ⟨by decide, by decide⟩ rfl hl.1 rfl (Nat.le_of_ble_eq_true rfl) d_p31m20_5 ⟨by decide, by decide⟩ (fun r1 h2 H locs hp3 w => ?_)
  refine W.widen (k := 0) (n := 0) (by decide) (by decide) ?_
  obtain ⟨e4, rfl⟩ := hp3
  refine lv_pop hx hb d_p31m20_8 rfl ?_
  refine lv_aload_n hx hb d_p31m20_9 rfl (lv_at hl 0 rfl) ?_
  refine lv_iload_n hx hb d_p31m20_10 rfl (lv_at hl 1 rfl) ?_
  refine pd_cV (a := x) (As := [.int (nI i)]) (rest := []) X w hx0 rfl (c_AL_elementData l G h (by assumption) (by omega)) ok_AL_elementData ⟨mT_187, mT_188⟩ mT_186 ⟨by decide, by decide⟩ rfl hl.1 rfl (Nat.le_of_ble_eq_true rfl) d_p31m20_11 ⟨by decide, by decide⟩ (fun r5 h6 H locs hp7 w => ?_)
  refine W.widen (k := 0) (n := 0) (by decide) (by decide) ?_
  obtain ⟨e8, rfl⟩ := hp7
  exact pd_aret (v := r5) X (Or.inl ⟨_, rfl⟩) w ⟨e8.symm, rfl⟩ (by decide) (by decide) d_p31m20_14
