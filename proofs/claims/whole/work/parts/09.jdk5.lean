/-- a StringBuilder that holds cs: its object under the mark t1, its bytes under t2 -/
def pd_SB (G : pd_G) (h : pd_H) (b t1 t2 : Nat) (cs : List Nat) : Prop := ∃ (v cap : Nat) (f : Nat → Int32) (ml : Bool), h b = some (t1, .inr (11, [.ref v, .int (nI 0), .int (pd_b ml), .int (nI cs.length)])) ∧ h v = some (t2, .inl (.byte, cap, .inl f)) ∧ (∀ j, j < cs.length → f j = sb_b (cs.getD j 0)) ∧ (∀ x ∈ cs, x < 256) ∧ cs.length ≤ cap ∧ cap ≤ 200 ∧ (∀ j, fits .byte (.int (f j)) = true) ∧ G.2.1 ≤ b ∧ G.2.1 ≤ v
theorem pd_SB.kx {G : pd_G} {ts : List Nat} {h h' : pd_H} {b t1 t2 : Nat} {cs : List Nat} (q : pd_SB G h b t1 t2 cs) (k : pd_kx ts h h') (n1 : t1 ∉ ts) (n2 : t2 ∉ ts) : pd_SB G h' b t1 t2 cs := by
  obtain ⟨v, cap, f, ml, h1, h2, h3⟩ := q
  exact ⟨v, cap, f, ml, k _ _ h1 n1, k _ _ h2 n2, h3⟩
def pd_nsb (c : pd_C) : Prop := (∀ t fs, c ≠ (t, .inr (11, fs))) ∧ ∀ t n f, c ≠ (t, .inl (.byte, n, .inl f))
theorem pd_SB.kq {G : pd_G} {h h' : pd_H} {a b t1 t2 : Nat} {cs : List Nat} {ca : pd_C} (q : pd_SB G h b t1 t2 cs) (k : pd_kq a h h') (fa : h a = some ca) (n : pd_nsb ca) : pd_SB G h' b t1 t2 cs := by
  obtain ⟨v, cap, f, ml, h1, h2, h3⟩ := q
  exact ⟨v, cap, f, ml, k _ _ (pd_ne h1 fa (fun z => n.1 _ _ z.symm)) h1, k _ _ (pd_ne h2 fa (fun z => n.2 _ _ _ z.symm)) h2, h3⟩
theorem tx_b2 (x : Int32) : x.toInt8.toInt32.toInt8.toInt32 = x.toInt8.toInt32 := pk_vb x
theorem tx_app_get {cs ds : List Nat} {j : Nat} (hj : j < cs.length) : (cs ++ ds).getD j 0 = cs.getD j 0 := by
  rw [List.getD_eq_getElem?_getD, List.getElem?_append_left hj, ← List.getD_eq_getElem?_getD]
theorem tx_app_get2 {cs ds : List Nat} {j : Nat} (hj : cs.length ≤ j) : (cs ++ ds).getD j 0 = ds.getD (j - cs.length) 0 := by
  rw [List.getD_eq_getElem?_getD, List.getElem?_append_right hj, ← List.getD_eq_getElem?_getD]
theorem tx_app_lt {cs ds : List Nat} (h1 : ∀ x ∈ cs, x < 256) (h2 : ∀ x ∈ ds, x < 256) : ∀ x ∈ cs ++ ds, x < 256 := fun x hx => (List.mem_append.mp hx).elim (h1 x) (h2 x)
theorem tx_by1 {cs : List Nat} {f f2 : Nat → Int32} {ch : Nat} (hvf : ∀ j, j < cs.length → f j = sb_b (cs.getD j 0)) (g : ∀ j, j < cs.length → f2 j = f j) : ∀ j, j < (cs ++ [ch]).length → upd f2 cs.length ((nI ch).toInt8.toInt32.toInt8.toInt32) j = sb_b ((cs ++ [ch]).getD j 0) := by
  intro j hj
  rw [List.length_append] at hj
  by_cases z : j = cs.length
  · subst z
    rw [pk_us, tx_b2, tx_app_get2 (Nat.le_refl _), Nat.sub_self]
    rfl
  · have hlt : j < cs.length := by
      simp at hj
      omega
    rw [pk_un z, tx_app_get hlt, g j hlt, hvf j hlt]
theorem tx_one {ch : Nat} (hch : ch < 256) : ∀ x ∈ [ch], x < 256 := fun x hx => by rw [List.mem_singleton.mp hx]; exact hch
/-- bytes of cs with those of ds behind them -/
theorem tx_by2 {cs ds : List Nat} {f f2 f1 : Nat → Int32} (hvf : ∀ j, j < cs.length → f j = sb_b (cs.getD j 0)) (g : ∀ j, j < cs.length → f2 j = f j) (hf1 : ∀ j, j < ds.length → f1 j = sb_b (ds.getD j 0)) : ∀ j, j < (cs ++ ds).length → va_cpy f1 f2 0 cs.length ds.length j = sb_b ((cs ++ ds).getD j 0) := by
  intro j hj
  rw [List.length_append] at hj
  by_cases z : j < cs.length
  · rw [pk_cpy_out (Or.inl z), tx_app_get z, g j z, hvf j z]
  · rw [pk_cpy_in (by omega) (by omega), tx_app_get2 (by omega), ← hf1 _ (by omega)]
    exact congrArg f1 (by omega)
theorem d_p26m3_0 : decode prog_26_method_3_code 0 = .ok (.iload_n 0, 1) := by decide +kernel
theorem d_p26m3_1 : decode prog_26_method_3_code 1 = .ok (.sipush 255, 3) := by decide +kernel
theorem d_p26m3_4 : decode prog_26_method_3_code 4 = .ok (.if_icmp .gt 7, 3) := by decide +kernel
theorem d_p26m3_7 : decode prog_26_method_3_code 7 = .ok (.iconst 1, 1) := by decide +kernel
theorem d_p26m3_8 : decode prog_26_method_3_code 8 = .ok (.goto 4, 3) := by decide +kernel
theorem d_p26m3_11 : decode prog_26_method_3_code 11 = .ok (.iconst 0, 1) := by decide +kernel
theorem d_p26m3_12 : decode prog_26_method_3_code 12 = .ok (.ireturn, 1) := by decide +kernel
abbrev y_StringLatin1_canEncodeC : MethodName := ⟨"java/lang/StringLatin1", "canEncode", "(C)Z"⟩
theorem ok_StringLatin1_canEncodeC : pd_ok y_StringLatin1_canEncodeC prog_26_method_3_code 1 (some .boolean) 1 := ⟨mT_449, mT_8, by decide, by decide +kernel⟩
abbrev rm_StringLatin1_canEncodeC : Room := { frames := 0, cells := 0, slots := 0, locals := 0 }
set_option maxHeartbeats 4000000 in
set_option maxRecDepth 100000 in
theorem c_StringLatin1_canEncodeC (l : Launch) (G : pd_G) (h : pd_H) {ch : Nat} (hch : ch < 256) : pd_M l y_StringLatin1_canEncodeC prog_26_method_3_code 1 (some .boolean) rm_StringLatin1_canEncodeC G h [.int (nI ch)] pd_vb (fun r h1 => r = true ∧ h = h1) := by
  refine pd_M.of (by decide) (Nat.le_of_ble_eq_true rfl) ?_
  intro p e s m below meth c X hmn w ls hl
  have hx := X.1
  have hb := X.2.1
  have hl : lv_has ls 1 [(0, .int (nI ch))] := hl
  refine lv_iload_n hx hb d_p26m3_0 rfl (lv_at hl 0 rfl) ?_
  refine lv_sipush (v := nI 255) hx hb d_p26m3_1 (by decide) ?_
  refine pd_jgt (tgt := 11) hx hb d_p26m3_4 (by decide) (by omega) (by omega) (fun q1 => ?_) (fun q1 => ?_)
  · -- taken: 11
    exfalso
    omega
  · -- not taken: 7
    refine lv_iconst (v := nI 1) hx hb d_p26m3_7 (by decide) ?_
    refine lv_goto (tgt := 12) hx hb d_p26m3_8 (by decide) ?_
    refine W.eq (g2 := F0 m 12 ls [.int (pd_b true)]) rfl ?_
    exact pd_zret (v := true) X w ⟨rfl, rfl⟩ (by decide) (by decide) d_p26m3_12
theorem d_p17m31_0 : decode prog_17_method_31_code 0 = .ok (.aload_n 0, 1) := by decide +kernel
theorem d_p17m31_1 : decode prog_17_method_31_code 1 = .ok (.aload_n 0, 1) := by decide +kernel
theorem d_p17m31_2 : decode prog_17_method_31_code 2 = .ok (.getfield 79, 3) := by decide +kernel
theorem d_p17m31_5 : decode prog_17_method_31_code 5 = .ok (.iconst 1, 1) := by decide +kernel
theorem d_p17m31_6 : decode prog_17_method_31_code 6 = .ok (.iadd, 1) := by decide +kernel
theorem d_p17m31_7 : decode prog_17_method_31_code 7 = .ok (.invokevirtual 100, 3) := by decide +kernel
theorem d_p17m31_10 : decode prog_17_method_31_code 10 = .ok (.aload_n 0, 1) := by decide +kernel
theorem d_p17m31_11 : decode prog_17_method_31_code 11 = .ok (.invokevirtual 83, 3) := by decide +kernel
theorem d_p17m31_14 : decode prog_17_method_31_code 14 = .ok (.ifCond .eq 31, 3) := by decide +kernel
theorem d_p17m31_17 : decode prog_17_method_31_code 17 = .ok (.iload_n 1, 1) := by decide +kernel
theorem d_p17m31_18 : decode prog_17_method_31_code 18 = .ok (.invokestatic 191, 3) := by decide +kernel
theorem d_p17m31_21 : decode prog_17_method_31_code 21 = .ok (.ifCond .eq 24, 3) := by decide +kernel
theorem d_p17m31_24 : decode prog_17_method_31_code 24 = .ok (.aload_n 0, 1) := by decide +kernel
theorem d_p17m31_25 : decode prog_17_method_31_code 25 = .ok (.getfield 15, 3) := by decide +kernel
theorem d_p17m31_28 : decode prog_17_method_31_code 28 = .ok (.aload_n 0, 1) := by decide +kernel
theorem d_p17m31_29 : decode prog_17_method_31_code 29 = .ok (.dup, 1) := by decide +kernel
theorem d_p17m31_30 : decode prog_17_method_31_code 30 = .ok (.getfield 79, 3) := by decide +kernel
theorem d_p17m31_33 : decode prog_17_method_31_code 33 = .ok (.dup_x1, 1) := by decide +kernel
theorem d_p17m31_34 : decode prog_17_method_31_code 34 = .ok (.iconst 1, 1) := by decide +kernel
theorem d_p17m31_35 : decode prog_17_method_31_code 35 = .ok (.iadd, 1) := by decide +kernel
theorem d_p17m31_36 : decode prog_17_method_31_code 36 = .ok (.putfield 79, 3) := by decide +kernel
theorem d_p17m31_39 : decode prog_17_method_31_code 39 = .ok (.iload_n 1, 1) := by decide +kernel
theorem d_p17m31_40 : decode prog_17_method_31_code 40 = .ok (.i2b, 1) := by decide +kernel
theorem d_p17m31_41 : decode prog_17_method_31_code 41 = .ok (.bastore, 1) := by decide +kernel
theorem d_p17m31_42 : decode prog_17_method_31_code 42 = .ok (.goto 33, 3) := by decide +kernel
theorem d_p17m31_45 : decode prog_17_method_31_code 45 = .ok (.aload_n 0, 1) := by decide +kernel
theorem d_p17m31_46 : decode prog_17_method_31_code 46 = .ok (.invokevirtual 83, 3) := by decide +kernel
theorem d_p17m31_49 : decode prog_17_method_31_code 49 = .ok (.ifCond .eq 7, 3) := by decide +kernel
theorem d_p17m31_52 : decode prog_17_method_31_code 52 = .ok (.aload_n 0, 1) := by decide +kernel
theorem d_p17m31_53 : decode prog_17_method_31_code 53 = .ok (.invokevirtual 195, 3) := by decide +kernel
theorem d_p17m31_56 : decode prog_17_method_31_code 56 = .ok (.aload_n 0, 1) := by decide +kernel
theorem d_p17m31_57 : decode prog_17_method_31_code 57 = .ok (.getfield 15, 3) := by decide +kernel
theorem d_p17m31_60 : decode prog_17_method_31_code 60 = .ok (.aload_n 0, 1) := by decide +kernel
theorem d_p17m31_61 : decode prog_17_method_31_code 61 = .ok (.dup, 1) := by decide +kernel
theorem d_p17m31_62 : decode prog_17_method_31_code 62 = .ok (.getfield 79, 3) := by decide +kernel
theorem d_p17m31_65 : decode prog_17_method_31_code 65 = .ok (.dup_x1, 1) := by decide +kernel
theorem d_p17m31_66 : decode prog_17_method_31_code 66 = .ok (.iconst 1, 1) := by decide +kernel
theorem d_p17m31_67 : decode prog_17_method_31_code 67 = .ok (.iadd, 1) := by decide +kernel
theorem d_p17m31_68 : decode prog_17_method_31_code 68 = .ok (.putfield 79, 3) := by decide +kernel
theorem d_p17m31_71 : decode prog_17_method_31_code 71 = .ok (.iload_n 1, 1) := by decide +kernel
theorem d_p17m31_72 : decode prog_17_method_31_code 72 = .ok (.invokestatic 197, 3) := by decide +kernel
theorem d_p17m31_75 : decode prog_17_method_31_code 75 = .ok (.aload_n 0, 1) := by decide +kernel
theorem d_p17m31_76 : decode prog_17_method_31_code 76 = .ok (.areturn, 1) := by decide +kernel
abbrev y_ASB_appendC : MethodName := ⟨"java/lang/AbstractStringBuilder", "append", "(C)Ljava/lang/AbstractStringBuilder;"⟩
theorem ok_ASB_appendC : pd_ok y_ASB_appendC prog_17_method_31_code 2 (some (.object "java/lang/AbstractStringBuilder")) 1 := ⟨mT_421, mT_2, by decide, by decide +kernel⟩
abbrev rm_ASB_appendC : Room := { frames := 4, cells := 1, slots := 200, locals := 91 }
set_option maxHeartbeats 4000000 in
set_option maxRecDepth 100000 in
theorem c_ASB_appendC (l : Launch) (G : pd_G) (h : pd_H) {b t1 t2 : Nat} {cs : List Nat} {ch : Nat} (hSB : pd_SB G h b t1 t2 cs) (htt : t2 ≠ t1) (h01 : t1 ≠ 0) (h02 : t2 ≠ 0) (hch : ch < 256) (hln : cs.length + 1 ≤ 100) : pd_M l y_ASB_appendC prog_17_method_31_code 2 (some (.object "java/lang/AbstractStringBuilder")) rm_ASB_appendC G h [.ref b, .int (nI ch)] Value.ref (fun r h1 => b = r ∧ pd_kx [t1, t2] h h1 ∧ pd_SB G h1 b t1 t2 (cs ++ [ch])) := by
  refine pd_M.of (by decide) (Nat.le_of_ble_eq_true rfl) ?_
  intro p e s m below meth c X hmn w ls hl
  have hx := X.1
  have hb := X.2.1
  have hl : lv_has ls 2 [(0, .ref b), (1, .int (nI ch))] := hl
  obtain ⟨v, cap, f, ml, hob, hov, hvf, hvc, hnc, hcap, hfit, hz_b, hz_v⟩ := id hSB
  have h01s := Ne.symm h01
  have h02s := Ne.symm h02
  have htts := Ne.symm htt
  refine lv_aload_n hx hb d_p17m31_0 rfl (lv_at hl 0 rfl) ?_
  refine lv_aload_n hx hb d_p17m31_1 rfl (lv_at hl 0 rfl) ?_
  refine pd_get X w hob rfl 3 (by decide) mT_62 rfl rfl d_p17m31_2 ?_
  refine lv_iconst (v := nI 1) hx hb d_p17m31_5 (by decide) ?_
  refine pd_iadd hx hb d_p17m31_6 ?_
  refine pd_cUv (a := b) (As := [.int (nI (cs.length + 1))]) (rest := []) X w hob rfl (c_AbstractStringBuilder_ensureCapacityInternal l G h (by assumption) (by assumption) (by assumption) (by assumption) (by assumption) (by assumption) (by assumption) (by assumption) (by omega)) ok_AbstractStringBuilder_ensureCapacityInternal rfl ⟨mT_424, (X.px (List.mem_of_getElem? (i := 0) rfl)), mT_1482⟩ mT_422 ⟨by decide, by decide⟩ rfl hl.1 rfl (Nat.le_of_ble_eq_true rfl) d_p17m31_7 ⟨by decide, by decide⟩ (fun h2 H locs hp3 w => ?_)
  refine W.widen (k := 1) (n := 200) (by decide) (by decide) ?_
  obtain ⟨k4, v5, cap6, f7, f8, f9, g10, c11, c12, c13, ft14, hz15⟩ := hp3
  refine lv_aload_n hx hb d_p17m31_10 rfl (lv_at hl 0 rfl) ?_
  refine pd_cU (a := b) (As := []) (rest := []) X w f8 rfl (c_AbstractStringBuilder_isLatin1 l G h2 (by assumption) (by assumption) (by assumption) (by assumption) (by assumption) (by assumption) (by assumption) (by assumption)) ok_AbstractStringBuilder_isLatin1 rfl ⟨mT_443, (X.2.2.2.2.2.1 _ mT_445), mT_444⟩ mT_442 ⟨by decide, by decide⟩ rfl hl.1 rfl (Nat.le_of_ble_eq_true rfl) d_p17m31_11 ⟨by decide, by decide⟩ (fun r16 h17 H locs hp18 w => ?_)
  refine W.widen (k := 1) (n := 200) (by decide) (by decide) ?_
  obtain ⟨e19, rfl⟩ := hp18
  subst e19
  refine W.eq (g2 := F0 m 14 ls [.int (nI 1)]) rfl ?_
  refine pd_zeq (tgt := 45) hx hb d_p17m31_14 (by decide) (by decide) (fun q => absurd q (by decide)) (fun _ => ?_)
  refine lv_iload_n hx hb d_p17m31_17 rfl (lv_at hl 1 rfl) ?_
  refine pd_cS (As := [.int (nI ch)]) (rest := []) X w (c_StringLatin1_canEncodeC l G h2 (by omega)) ok_StringLatin1_canEncodeC mT_448 mT_447 ⟨by decide, by decide⟩ rfl hl.1 rfl (Nat.le_of_ble_eq_true rfl) d_p17m31_18 ⟨by decide, by decide⟩ (fun r21 h22 H locs hp23 w => ?_)
  refine W.widen (k := 1) (n := 200) (by decide) (by decide) ?_
  obtain ⟨e24, rfl⟩ := hp23
  subst e24
  refine W.eq (g2 := F0 m 21 ls [.int (nI 1)]) rfl ?_
  refine pd_zeq (tgt := 45) hx hb d_p17m31_21 (by decide) (by decide) (fun q => absurd q (by decide)) (fun _ => ?_)
  refine lv_aload_n hx hb d_p17m31_24 rfl (lv_at hl 0 rfl) ?_
  refine pd_get X w f8 rfl 0 (by decide) mT_58 rfl rfl d_p17m31_25 ?_
  refine lv_aload_n hx hb d_p17m31_28 rfl (lv_at hl 0 rfl) ?_
  refine lv_dup hx hb d_p17m31_29 rfl ?_
  refine pd_get X w f8 rfl 3 (by decide) mT_62 rfl rfl d_p17m31_30 ?_
  refine lv_dup_x1 hx hb d_p17m31_33 rfl rfl ?_
  refine lv_iconst (v := nI 1) hx hb d_p17m31_34 (by decide) ?_
  refine pd_iadd hx hb d_p17m31_35 ?_
  refine pd_put (ty := .int) X w f8 hz_b rfl 3 (by decide) mT_62 rfl rfl (by decide +kernel) rfl rfl (Nat.le_of_ble_eq_true rfl) d_p17m31_36 (fun H locs w => ?_)
  have w : pd_w G s H locs (pd_up h2 b (t1, .inr (11, [.ref v5, .int (nI 0), .int (pd_b ml), .int (nI (cs.length + 1))]))) := w
  obtain ⟨h26, u29⟩ : ∃ z, z = pd_up h2 b (t1, .inr (11, [.ref v5, .int (nI 0), .int (pd_b ml), .int (nI (cs.length + 1))])) := ⟨_, rfl⟩
  rw [← u29] at w
  have k27 : pd_kq b h2 h26 := by rw [u29]; exact pd_up_kq
  have f28 : h26 b = some (t1, .inr (11, [.ref v5, .int (nI 0), .int (pd_b ml), .int (nI (cs.length + 1))])) := by rw [u29]; exact pd_up_s _ _ _
  have f30 := k27 _ _ (pd_ne f9 f8 (by simp [htt, htts, h01, h01s, h02, h02s])) f9
  refine lv_iload_n hx hb d_p17m31_39 rfl (lv_at hl 1 rfl) ?_
  refine lv_i2b hx hb d_p17m31_40 rfl ?_
  refine pd_bast X w f30 hz15 (by omega) (by omega) d_p17m31_41 (fun H locs w => ?_)
  have w : pd_w G s H locs (pd_up h26 v5 (t2, .inl (.byte, cap6, .inl (upd f7 cs.length (((nI ch).toInt8.toInt32).toInt8.toInt32))))) := w
  obtain ⟨h31, u34⟩ : ∃ z, z = pd_up h26 v5 (t2, .inl (.byte, cap6, .inl (upd f7 cs.length (((nI ch).toInt8.toInt32).toInt8.toInt32)))) := ⟨_, rfl⟩
  rw [← u34] at w
  have k32 : pd_kq v5 h26 h31 := by rw [u34]; exact pd_up_kq
  have f33 : h31 v5 = some (t2, .inl (.byte, cap6, .inl (upd f7 cs.length (((nI ch).toInt8.toInt32).toInt8.toInt32)))) := by rw [u34]; exact pd_up_s _ _ _
  have f35 := k32 _ _ (pd_ne f28 f30 (by simp [htt, htts, h01, h01s, h02, h02s])) f28
  refine lv_goto (tgt := 75) hx hb d_p17m31_42 (by decide) ?_
  refine lv_aload_n hx hb d_p17m31_75 rfl (lv_at hl 0 rfl) ?_
  exact pd_aret (v := b) X (Or.inl ⟨_, rfl⟩) w ⟨rfl, pd_kx.tr (pd_kx.mono (us := [t1, t2]) (pd_kx.tr (k4) (pd_kq.kx (k27) f8)) (by simp)) (pd_kx.mono (us := [t1, t2]) (pd_kq.kx (k32) f30) (by simp)), _, _, _, ml, (by rw [List.length_append]; exact f35), f33, tx_by1 hvf g10, tx_app_lt hvc (tx_one hch), (by rw [List.length_append]; exact c11), c13, sb_fitU ft14 (pk_fb _), hz_b, hz15⟩ (by decide) (by decide) d_p17m31_76
theorem d_p17m13_0 : decode prog_17_method_13_code 0 = .ok (.iload_n 1, 1) := by decide +kernel
theorem d_p17m13_1 : decode prog_17_method_13_code 1 = .ok (.ifCond .ge 12, 3) := by decide +kernel
theorem d_p17m13_4 : decode prog_17_method_13_code 4 = .ok (.new 129, 3) := by decide +kernel
theorem d_p17m13_7 : decode prog_17_method_13_code 7 = .ok (.dup, 1) := by decide +kernel
theorem d_p17m13_8 : decode prog_17_method_13_code 8 = .ok (.iload_n 1, 1) := by decide +kernel
theorem d_p17m13_9 : decode prog_17_method_13_code 9 = .ok (.invokespecial 131, 3) := by decide +kernel
theorem d_p17m13_12 : decode prog_17_method_13_code 12 = .ok (.athrow, 1) := by decide +kernel
theorem d_p17m13_13 : decode prog_17_method_13_code 13 = .ok (.aload_n 0, 1) := by decide +kernel
theorem d_p17m13_14 : decode prog_17_method_13_code 14 = .ok (.iload_n 1, 1) := by decide +kernel
theorem d_p17m13_15 : decode prog_17_method_13_code 15 = .ok (.invokevirtual 100, 3) := by decide +kernel
theorem d_p17m13_18 : decode prog_17_method_13_code 18 = .ok (.aload_n 0, 1) := by decide +kernel
theorem d_p17m13_19 : decode prog_17_method_13_code 19 = .ok (.getfield 79, 3) := by decide +kernel
theorem d_p17m13_22 : decode prog_17_method_13_code 22 = .ok (.iload_n 1, 1) := by decide +kernel
theorem d_p17m13_23 : decode prog_17_method_13_code 23 = .ok (.if_icmp .ge 40, 3) := by decide +kernel
theorem d_p17m13_26 : decode prog_17_method_13_code 26 = .ok (.aload_n 0, 1) := by decide +kernel
theorem d_p17m13_27 : decode prog_17_method_13_code 27 = .ok (.invokevirtual 83, 3) := by decide +kernel
theorem d_p17m13_30 : decode prog_17_method_13_code 30 = .ok (.ifCond .eq 18, 3) := by decide +kernel
theorem d_p17m13_33 : decode prog_17_method_13_code 33 = .ok (.aload_n 0, 1) := by decide +kernel
theorem d_p17m13_34 : decode prog_17_method_13_code 34 = .ok (.getfield 15, 3) := by decide +kernel
theorem d_p17m13_37 : decode prog_17_method_13_code 37 = .ok (.aload_n 0, 1) := by decide +kernel
theorem d_p17m13_38 : decode prog_17_method_13_code 38 = .ok (.getfield 79, 3) := by decide +kernel
theorem d_p17m13_41 : decode prog_17_method_13_code 41 = .ok (.iload_n 1, 1) := by decide +kernel
theorem d_p17m13_42 : decode prog_17_method_13_code 42 = .ok (.invokestatic 133, 3) := by decide +kernel
theorem d_p17m13_45 : decode prog_17_method_13_code 45 = .ok (.goto 31, 3) := by decide +kernel
theorem d_p17m13_48 : decode prog_17_method_13_code 48 = .ok (.aload_n 0, 1) := by decide +kernel
theorem d_p17m13_49 : decode prog_17_method_13_code 49 = .ok (.getfield 15, 3) := by decide +kernel
theorem d_p17m13_52 : decode prog_17_method_13_code 52 = .ok (.aload_n 0, 1) := by decide +kernel
theorem d_p17m13_53 : decode prog_17_method_13_code 53 = .ok (.getfield 79, 3) := by decide +kernel
theorem d_p17m13_56 : decode prog_17_method_13_code 56 = .ok (.iload_n 1, 1) := by decide +kernel
theorem d_p17m13_57 : decode prog_17_method_13_code 57 = .ok (.invokestatic 137, 3) := by decide +kernel
theorem d_p17m13_60 : decode prog_17_method_13_code 60 = .ok (.goto 16, 3) := by decide +kernel
theorem d_p17m13_63 : decode prog_17_method_13_code 63 = .ok (.aload_n 0, 1) := by decide +kernel
theorem d_p17m13_64 : decode prog_17_method_13_code 64 = .ok (.getfield 79, 3) := by decide +kernel
theorem d_p17m13_67 : decode prog_17_method_13_code 67 = .ok (.iload_n 1, 1) := by decide +kernel
theorem d_p17m13_68 : decode prog_17_method_13_code 68 = .ok (.if_icmp .le 8, 3) := by decide +kernel
theorem d_p17m13_71 : decode prog_17_method_13_code 71 = .ok (.aload_n 0, 1) := by decide +kernel
theorem d_p17m13_72 : decode prog_17_method_13_code 72 = .ok (.iconst 1, 1) := by decide +kernel
theorem d_p17m13_73 : decode prog_17_method_13_code 73 = .ok (.putfield 73, 3) := by decide +kernel
theorem d_p17m13_76 : decode prog_17_method_13_code 76 = .ok (.aload_n 0, 1) := by decide +kernel
theorem d_p17m13_77 : decode prog_17_method_13_code 77 = .ok (.iload_n 1, 1) := by decide +kernel
theorem d_p17m13_78 : decode prog_17_method_13_code 78 = .ok (.putfield 79, 3) := by decide +kernel
theorem d_p17m13_81 : decode prog_17_method_13_code 81 = .ok (.return_, 1) := by decide +kernel
abbrev y_ASB_setLength : MethodName := ⟨"java/lang/AbstractStringBuilder", "setLength", "(I)V"⟩
theorem ok_ASB_setLength : pd_ok y_ASB_setLength prog_17_method_13_code 2 none 1 := ⟨mT_559, mT_2, by decide, by decide +kernel⟩
abbrev rm_ASB_setLength : Room := { frames := 4, cells := 1, slots := 200, locals := 91 }
set_option maxHeartbeats 4000000 in
set_option maxRecDepth 100000 in
theorem c_ASB_setLength (l : Launch) (G : pd_G) (h : pd_H) {b t1 t2 : Nat} {cs : List Nat} (hSB : pd_SB G h b t1 t2 cs) (htt : t2 ≠ t1) (h01 : t1 ≠ 0) (h02 : t2 ≠ 0) : pd_Mv l y_ASB_setLength prog_17_method_13_code 2 rm_ASB_setLength G h [.ref b, .int (nI 0)] (fun h1 => pd_kx [t1, t2] h h1 ∧ pd_SB G h1 b t1 t2 []) := by
  refine pd_Mv.of (by decide) (Nat.le_of_ble_eq_true rfl) ?_
  intro p e s m below meth c X hmn w ls hl
  have hx := X.1
  have hb := X.2.1
  have hl : lv_has ls 2 [(0, .ref b), (1, .int (nI 0))] := hl
  obtain ⟨v, cap, f, ml, hob, hov, hvf, hvc, hnc, hcap, hfit, hz_b, hz_v⟩ := id hSB
  have h01s := Ne.symm h01
  have h02s := Ne.symm h02
  have htts := Ne.symm htt
  refine lv_iload_n hx hb d_p17m13_0 rfl (lv_at hl 1 rfl) ?_
  refine pd_zge (tgt := 13) hx hb d_p17m13_1 (by decide) (by omega) ?_
  refine lv_aload_n hx hb d_p17m13_13 rfl (lv_at hl 0 rfl) ?_
  refine lv_iload_n hx hb d_p17m13_14 rfl (lv_at hl 1 rfl) ?_
  refine pd_cUv (a := b) (As := [.int (nI 0)]) (rest := []) X w hob rfl (c_AbstractStringBuilder_ensureCapacityInternal l G h (by assumption) (by assumption) (by assumption) (by assumption) (by assumption) (by assumption) (by assumption) (by assumption) (by omega)) ok_AbstractStringBuilder_ensureCapacityInternal rfl ⟨mT_424, (X.px (List.mem_of_getElem? (i := 0) rfl)), mT_1482⟩ mT_422 ⟨by decide, by decide⟩ rfl hl.1 rfl (Nat.le_of_ble_eq_true rfl) d_p17m13_15 ⟨by decide, by decide⟩ (fun h3 H locs hp4 w => ?_)
  refine W.widen (k := 1) (n := 200) (by decide) (by decide) ?_
  obtain ⟨k5, v6, cap7, f8, f9, f10, g11, c12, c13, c14, ft15, hz16⟩ := hp4
  refine lv_aload_n hx hb d_p17m13_18 rfl (lv_at hl 0 rfl) ?_
  refine pd_get X w f9 rfl 3 (by decide) mT_62 rfl rfl d_p17m13_19 ?_
  refine lv_iload_n hx hb d_p17m13_22 rfl (lv_at hl 1 rfl) ?_
  refine pd_jge (tgt := 63) hx hb d_p17m13_23 (by decide) (by omega) (by omega) (fun q17 => ?_) (fun q17 => ?_)
  · -- taken: 63
    refine lv_aload_n hx hb d_p17m13_63 rfl (lv_at hl 0 rfl) ?_
    refine pd_get X w f9 rfl 3 (by decide) mT_62 rfl rfl d_p17m13_64 ?_
    refine lv_iload_n hx hb d_p17m13_67 rfl (lv_at hl 1 rfl) ?_
    refine pd_jle (tgt := 76) hx hb d_p17m13_68 (by decide) (by omega) (by omega) (fun q18 => ?_) (fun q18 => ?_)
    · -- taken: 76
      refine lv_aload_n hx hb d_p17m13_76 rfl (lv_at hl 0 rfl) ?_
      refine lv_iload_n hx hb d_p17m13_77 rfl (lv_at hl 1 rfl) ?_
      refine pd_put (ty := .int) X w f9 hz_b rfl 3 (by decide) mT_62 rfl rfl (by decide +kernel) rfl rfl (Nat.le_of_ble_eq_true rfl) d_p17m13_78 (fun H locs w => ?_)
      have w : pd_w G s H locs (pd_up h3 b (t1, .inr (11, [.ref v6, .int (nI 0), .int (pd_b ml), .int (nI 0)]))) := w
      obtain ⟨h19, u22⟩ : ∃ z, z = pd_up h3 b (t1, .inr (11, [.ref v6, .int (nI 0), .int (pd_b ml), .int (nI 0)])) := ⟨_, rfl⟩
      rw [← u22] at w
      have k20 : pd_kq b h3 h19 := by rw [u22]; exact pd_up_kq
      have f21 : h19 b = some (t1, .inr (11, [.ref v6, .int (nI 0), .int (pd_b ml), .int (nI 0)])) := by rw [u22]; exact pd_up_s _ _ _
      have f23 := k20 _ _ (pd_ne f10 f9 (by simp [htt, htts, h01, h01s, h02, h02s])) f10
      exact pd_vret X w ⟨pd_kx.mono (us := [t1, t2]) (pd_kx.tr (k5) (pd_kq.kx (k20) f9)) (by simp), _, _, _, ml, f21, f23, (fun j hj => absurd hj (Nat.not_lt_zero j)), (fun x hx => absurd hx List.not_mem_nil), Nat.zero_le _, c14, ft15, hz_b, hz16⟩ (by decide) (by decide) d_p17m13_81
    · -- not taken: 71
      refine lv_aload_n hx hb d_p17m13_71 rfl (lv_at hl 0 rfl) ?_
      refine lv_iconst (v := nI 1) hx hb d_p17m13_72 (by decide) ?_
      refine pd_put (ty := .boolean) X w f9 hz_b rfl 2 (by decide) mT_60 rfl rfl (by decide +kernel) (by decide) (by decide) (Nat.le_of_ble_eq_true rfl) d_p17m13_73 (fun H locs w => ?_)
      have w : pd_w G s H locs (pd_up h3 b (t1, .inr (11, [.ref v6, .int (nI 0), .int (nI 1), .int (nI cs.length)]))) := w
      obtain ⟨h24, u27⟩ : ∃ z, z = pd_up h3 b (t1, .inr (11, [.ref v6, .int (nI 0), .int (nI 1), .int (nI cs.length)])) := ⟨_, rfl⟩
      rw [← u27] at w
      have k25 : pd_kq b h3 h24 := by rw [u27]; exact pd_up_kq
      have f26 : h24 b = some (t1, .inr (11, [.ref v6, .int (nI 0), .int (nI 1), .int (nI cs.length)])) := by rw [u27]; exact pd_up_s _ _ _
      have f28 := k25 _ _ (pd_ne f10 f9 (by simp [htt, htts, h01, h01s, h02, h02s])) f10
      refine lv_aload_n hx hb d_p17m13_76 rfl (lv_at hl 0 rfl) ?_
      refine lv_iload_n hx hb d_p17m13_77 rfl (lv_at hl 1 rfl) ?_
      refine pd_put (ty := .int) X w f26 hz_b rfl 3 (by decide) mT_62 rfl rfl (by decide +kernel) rfl rfl (Nat.le_of_ble_eq_true rfl) d_p17m13_78 (fun H locs w => ?_)
      have w : pd_w G s H locs (pd_up h24 b (t1, .inr (11, [.ref v6, .int (nI 0), .int (nI 1), .int (nI 0)]))) := w
      obtain ⟨h29, u32⟩ : ∃ z, z = pd_up h24 b (t1, .inr (11, [.ref v6, .int (nI 0), .int (nI 1), .int (nI 0)])) := ⟨_, rfl⟩
      rw [← u32] at w
      have k30 : pd_kq b h24 h29 := by rw [u32]; exact pd_up_kq
      have f31 : h29 b = some (t1, .inr (11, [.ref v6, .int (nI 0), .int (nI 1), .int (nI 0)])) := by rw [u32]; exact pd_up_s _ _ _
      have f33 := k30 _ _ (pd_ne f28 f26 (by simp [htt, htts, h01, h01s, h02, h02s])) f28
      exact pd_vret X w ⟨pd_kx.mono (us := [t1, t2]) (pd_kx.tr (pd_kx.tr (k5) (pd_kq.kx (k25) f9)) (pd_kq.kx (k30) f26)) (by simp), _, _, _, true, f31, f33, (fun j hj => absurd hj (Nat.not_lt_zero j)), (fun x hx => absurd hx List.not_mem_nil), Nat.zero_le _, c14, ft15, hz_b, hz16⟩ (by decide) (by decide) d_p17m13_81
  · -- not taken: 26
    exfalso
    omega
theorem d_p24m147_0 : decode prog_24_method_147_code 0 = .ok (.aload_n 0, 1) := by decide +kernel
theorem d_p24m147_1 : decode prog_24_method_147_code 1 = .ok (.invokevirtual 335, 3) := by decide +kernel
theorem d_p24m147_4 : decode prog_24_method_147_code 4 = .ok (.iload_n 3, 1) := by decide +kernel
theorem d_p24m147_5 : decode prog_24_method_147_code 5 = .ok (.if_icmp .ne 23, 3) := by decide +kernel
theorem d_p24m147_8 : decode prog_24_method_147_code 8 = .ok (.aload_n 0, 1) := by decide +kernel
theorem d_p24m147_9 : decode prog_24_method_147_code 9 = .ok (.getfield 9, 3) := by decide +kernel
theorem d_p24m147_12 : decode prog_24_method_147_code 12 = .ok (.iconst 0, 1) := by decide +kernel
theorem d_p24m147_13 : decode prog_24_method_147_code 13 = .ok (.aload_n 1, 1) := by decide +kernel
theorem d_p24m147_14 : decode prog_24_method_147_code 14 = .ok (.iload_n 2, 1) := by decide +kernel
theorem d_p24m147_15 : decode prog_24_method_147_code 15 = .ok (.iload_n 3, 1) := by decide +kernel
theorem d_p24m147_16 : decode prog_24_method_147_code 16 = .ok (.ishl, 1) := by decide +kernel
theorem d_p24m147_17 : decode prog_24_method_147_code 17 = .ok (.aload_n 0, 1) := by decide +kernel
theorem d_p24m147_18 : decode prog_24_method_147_code 18 = .ok (.getfield 9, 3) := by decide +kernel
theorem d_p24m147_21 : decode prog_24_method_147_code 21 = .ok (.arraylength, 1) := by decide +kernel
theorem d_p24m147_22 : decode prog_24_method_147_code 22 = .ok (.invokestatic 212, 3) := by decide +kernel
theorem d_p24m147_25 : decode prog_24_method_147_code 25 = .ok (.goto 18, 3) := by decide +kernel
theorem d_p24m147_28 : decode prog_24_method_147_code 28 = .ok (.aload_n 0, 1) := by decide +kernel
theorem d_p24m147_29 : decode prog_24_method_147_code 29 = .ok (.getfield 9, 3) := by decide +kernel
theorem d_p24m147_32 : decode prog_24_method_147_code 32 = .ok (.iconst 0, 1) := by decide +kernel
theorem d_p24m147_33 : decode prog_24_method_147_code 33 = .ok (.aload_n 1, 1) := by decide +kernel
theorem d_p24m147_34 : decode prog_24_method_147_code 34 = .ok (.iload_n 2, 1) := by decide +kernel
theorem d_p24m147_35 : decode prog_24_method_147_code 35 = .ok (.aload_n 0, 1) := by decide +kernel
theorem d_p24m147_36 : decode prog_24_method_147_code 36 = .ok (.getfield 9, 3) := by decide +kernel
theorem d_p24m147_39 : decode prog_24_method_147_code 39 = .ok (.arraylength, 1) := by decide +kernel
theorem d_p24m147_40 : decode prog_24_method_147_code 40 = .ok (.invokestatic 106, 3) := by decide +kernel
theorem d_p24m147_43 : decode prog_24_method_147_code 43 = .ok (.return_, 1) := by decide +kernel
abbrev y_String_getBytes : MethodName := ⟨"java/lang/String", "getBytes", "([BIB)V"⟩
theorem ok_String_getBytes : pd_ok y_String_getBytes prog_24_method_147_code 4 none 3 := ⟨mT_1050, mT_4, by decide, by decide +kernel⟩
abbrev rm_String_getBytes : Room := { frames := 1, cells := 0, slots := 0, locals := 40 }
set_option maxHeartbeats 4000000 in
set_option maxRecDepth 100000 in
theorem c_String_getBytes (l : Launch) (G : pd_G) (h : pd_H) {a : Nat} {cs : List Nat} {v t2 cap n : Nat} {f : Nat → Int32} (hS : pd_Str h a cs) (hov : h v = some (t2, .inl (.byte, cap, .inl f))) (h02 : t2 ≠ 0) (hz_v : G.2.1 ≤ v) (hln : n + cs.length ≤ cap) (hc200 : cap ≤ 200) : pd_Mv l y_String_getBytes prog_24_method_147_code 4 rm_String_getBytes G h [.ref a, .ref v, .int (nI n), .int (nI 0)] (fun h1 => pd_kx [t2] h h1 ∧ ∃ g, h1 v = some (t2, .inl (.byte, cap, .inl (va_cpy g f 0 n cs.length))) ∧ (∀ j, j < cs.length → g j = sb_b (cs.getD j 0)) ∧ pd_kq v h h1) := by
  refine pd_Mv.of (by decide) (Nat.le_of_ble_eq_true rfl) ?_
  intro p e s m below meth c X hmn w ls hl
  have hx := X.1
  have hb := X.2.1
  have hl : lv_has ls 4 [(0, .ref a), (1, .ref v), (2, .int (nI n)), (3, .int (nI 0))] := hl
  obtain ⟨v1, f1, hv1, hv2, hvf, hvc, hvl⟩ := id hS
  have h02s := Ne.symm h02
  refine lv_aload_n hx hb d_p24m147_0 rfl (lv_at hl 0 rfl) ?_
  refine pd_cV (a := a) (As := []) (rest := []) X w hv1 rfl (c_String_coder l G h (by assumption)) ok_String_coder ⟨mT_97, mT_98⟩ mT_96 ⟨by decide, by decide⟩ rfl hl.1 rfl (Nat.le_of_ble_eq_true rfl) d_p24m147_1 ⟨by decide, by decide⟩ (fun r1 h2 H locs hp3 w => ?_)
  refine W.widen (k := 0) (n := 0) (by decide) (by decide) ?_
  obtain ⟨e4, rfl⟩ := hp3
  subst e4
  refine lv_iload_n hx hb d_p24m147_4 rfl (lv_at hl 3 rfl) ?_
  refine pd_jne (tgt := 28) hx hb d_p24m147_5 (by decide) (by decide) (by decide) (fun q => absurd q (by decide)) (fun _ => ?_)
  refine lv_aload_n hx hb d_p24m147_8 rfl (lv_at hl 0 rfl) ?_
  refine pd_get X w hv1 rfl 0 (by decide) mT_520 rfl rfl d_p24m147_9 ?_
  refine lv_iconst (v := nI 0) hx hb d_p24m147_12 (by decide) ?_
  refine lv_aload_n hx hb d_p24m147_13 rfl (lv_at hl 1 rfl) ?_
  refine lv_iload_n hx hb d_p24m147_14 rfl (lv_at hl 2 rfl) ?_
  refine lv_iload_n hx hb d_p24m147_15 rfl (lv_at hl 3 rfl) ?_
  refine pd_ishl0 hx hb d_p24m147_16 ?_
  refine lv_aload_n hx hb d_p24m147_17 rfl (lv_at hl 0 rfl) ?_
  refine pd_get X w hv1 rfl 0 (by decide) mT_520 rfl rfl d_p24m147_18 ?_
  refine pd_alen X w hv2 d_p24m147_21 ?_
  refine pd_bcopy X hl.1 w hv2 hov hz_v mT_1051 mT_249 mT_248 mT_17 (by omega) (by omega) (by omega) (by omega) (fun i hi => by rw [Nat.zero_add, hvf i hi]; exact sb_fitB _) (by decide) (Nat.le_of_ble_eq_true rfl) d_p24m147_22 (fun H locs w => ?_)
  have w : pd_w G s H locs (pd_up h v (t2, .inl (.byte, cap, .inl (va_cpy f1 f 0 n cs.length)))) := w
  obtain ⟨h6, u9⟩ : ∃ z, z = pd_up h v (t2, .inl (.byte, cap, .inl (va_cpy f1 f 0 n cs.length))) := ⟨_, rfl⟩
  rw [← u9] at w
  have k7 : pd_kq v h h6 := by rw [u9]; exact pd_up_kq
  have f8 : h6 v = some (t2, .inl (.byte, cap, .inl (va_cpy f1 f 0 n cs.length))) := by rw [u9]; exact pd_up_s _ _ _
  have f10 := k7 _ _ (pd_ne hv1 hov (by simp [h02, h02s])) hv1
  have f11 := k7 _ _ (pd_ne hv2 hov (by simp [h02, h02s])) hv2
  have f12 : pd_Str h6 a cs := ⟨_, _, f10, f11, hvf, hvc, hvl⟩
  refine lv_goto (tgt := 43) hx hb d_p24m147_25 (by decide) ?_
  exact pd_vret X w ⟨pd_kq.kx (k7) hov, f1, f8, hvf, k7⟩ (by decide) (by decide) d_p24m147_43
