theorem d_p26m13_0 : decode prog_26_method_13_code 0 = .ok (.aload_n 0, 1) := by decide +kernel
theorem d_p26m13_1 : decode prog_26_method_13_code 1 = .ok (.arraylength, 1) := by decide +kernel
theorem d_p26m13_2 : decode prog_26_method_13_code 2 = .ok (.aload_n 1, 1) := by decide +kernel
theorem d_p26m13_3 : decode prog_26_method_13_code 3 = .ok (.arraylength, 1) := by decide +kernel
theorem d_p26m13_4 : decode prog_26_method_13_code 4 = .ok (.if_icmp .ne 30, 3) := by decide +kernel
theorem d_p26m13_7 : decode prog_26_method_13_code 7 = .ok (.iconst 0, 1) := by decide +kernel
theorem d_p26m13_8 : decode prog_26_method_13_code 8 = .ok (.istore_n 2, 1) := by decide +kernel
theorem d_p26m13_9 : decode prog_26_method_13_code 9 = .ok (.iload_n 2, 1) := by decide +kernel
theorem d_p26m13_10 : decode prog_26_method_13_code 10 = .ok (.aload_n 0, 1) := by decide +kernel
theorem d_p26m13_11 : decode prog_26_method_13_code 11 = .ok (.arraylength, 1) := by decide +kernel
theorem d_p26m13_12 : decode prog_26_method_13_code 12 = .ok (.if_icmp .ge 20, 3) := by decide +kernel
theorem d_p26m13_15 : decode prog_26_method_13_code 15 = .ok (.aload_n 0, 1) := by decide +kernel
theorem d_p26m13_16 : decode prog_26_method_13_code 16 = .ok (.iload_n 2, 1) := by decide +kernel
theorem d_p26m13_17 : decode prog_26_method_13_code 17 = .ok (.baload, 1) := by decide +kernel
theorem d_p26m13_18 : decode prog_26_method_13_code 18 = .ok (.aload_n 1, 1) := by decide +kernel
theorem d_p26m13_19 : decode prog_26_method_13_code 19 = .ok (.iload_n 2, 1) := by decide +kernel
theorem d_p26m13_20 : decode prog_26_method_13_code 20 = .ok (.baload, 1) := by decide +kernel
theorem d_p26m13_21 : decode prog_26_method_13_code 21 = .ok (.if_icmp .eq 5, 3) := by decide +kernel
theorem d_p26m13_24 : decode prog_26_method_13_code 24 = .ok (.iconst 0, 1) := by decide +kernel
theorem d_p26m13_25 : decode prog_26_method_13_code 25 = .ok (.ireturn, 1) := by decide +kernel
theorem d_p26m13_26 : decode prog_26_method_13_code 26 = .ok (.iinc 2 1, 3) := by decide +kernel
theorem d_p26m13_29 : decode prog_26_method_13_code 29 = .ok (.goto (-20), 3) := by decide +kernel
theorem d_p26m13_32 : decode prog_26_method_13_code 32 = .ok (.iconst 1, 1) := by decide +kernel
theorem d_p26m13_33 : decode prog_26_method_13_code 33 = .ok (.ireturn, 1) := by decide +kernel
theorem d_p26m13_34 : decode prog_26_method_13_code 34 = .ok (.iconst 0, 1) := by decide +kernel
theorem d_p26m13_35 : decode prog_26_method_13_code 35 = .ok (.ireturn, 1) := by decide +kernel
abbrev y_StringLatin1_equals : MethodName := ⟨"java/lang/StringLatin1", "equals", "([B[B)Z"⟩
theorem ok_StringLatin1_equals : pd_ok y_StringLatin1_equals prog_26_method_13_code 3 (some .boolean) 2 := ⟨mT_619, mT_8, by decide, by decide +kernel⟩
abbrev rm_StringLatin1_equals : Room := { frames := 0, cells := 0, slots := 0, locals := 0 }
set_option maxHeartbeats 4000000 in
set_option maxRecDepth 100000 in
theorem lp_StringLatin1_equals_9 (l : Launch) (G : pd_G) (h : pd_H) {v1 v2 : Nat} {cs ds : List Nat} {f1 f2 : Nat → Int32} (ha : h v1 = some (0, .inl (.byte, cs.length, .inl f1))) (hb2 : h v2 = some (0, .inl (.byte, ds.length, .inl f2))) (hf1 : ∀ j, j < cs.length → f1 j = sb_b (cs.getD j 0)) (hf2 : ∀ j, j < ds.length → f2 j = sb_b (ds.getD j 0)) (hc1 : ∀ x ∈ cs, x < 256) (hc2 : ∀ x ∈ ds, x < 256) (hl1 : cs.length ≤ 60) (hl2 : ds.length ≤ 60) {p : Program} {e : Env} {s : State} {m : MethodId} {below : List Frame} {meth : Method} {c : Code} (X : pd_B p s m [.ref v1, .ref v2].toArray meth c G y_StringLatin1_equals.cls prog_26_method_13_code 3 (some .boolean)) (hmn : meth.name = y_StringLatin1_equals.name) :
    ∀ (kk9 : Nat) (i : Nat), (i ≤ cs.length) → (cs.length = ds.length) → (∀ j, j < i → cs.getD j 0 = ds.getD j 0) → cs.length - i < kk9 → ∀ (H : Heap) (locs : List Loc), pd_w G s H locs h → ∀ ls : Array Slot, lv_has ls 3 [(2, .int (nI i)), (0, .ref v1), (1, .ref v2)] → W p l e rm_StringLatin1_equals s m [.ref v1, .ref v2].toArray below meth c H locs 0 0 (MQ below (pd_Q G pd_vb (fun r h1 => r = decide (cs = ds) ∧ h = h1)) [.ref v1, .ref v2].toArray s rm_StringLatin1_equals.cells rm_StringLatin1_equals.slots (fun q => G.2.1 ≤ q)) (F0 m 9 ls []) := by
  have hx := X.1
  have hb := X.2.1
  intro kk9
  induction kk9 with
  | zero => intros; omega
  | succ kk9 ih =>
    intro i hi hle hj hmu H locs w ls hl
    refine lv_iload_n hx hb d_p26m13_9 rfl (lv_at hl 0 rfl) ?_
    refine lv_aload_n hx hb d_p26m13_10 rfl (lv_at hl 1 rfl) ?_
    refine pd_alen X w ha d_p26m13_11 ?_
    refine pd_jge (tgt := 32) hx hb d_p26m13_12 (by decide) (by omega) (by omega) (fun q1 => ?_) (fun q1 => ?_)
    · -- taken: 32
      refine lv_iconst (v := nI 1) hx hb d_p26m13_32 (by decide) ?_
      refine W.eq (g2 := F0 m 33 ls [.int (pd_b true)]) rfl ?_
      exact pd_zret (v := true) X w ⟨(decide_eq_true (tx_ext hle (fun j hj2 => hj j (by omega)))).symm, rfl⟩ (by decide) (by decide) d_p26m13_33
    · -- not taken: 15
      refine lv_aload_n hx hb d_p26m13_15 rfl (lv_at hl 1 rfl) ?_
      refine lv_iload_n hx hb d_p26m13_16 rfl (lv_at hl 0 rfl) ?_
      refine pd_bald X w ha (by omega) (by omega) d_p26m13_17 ?_
      refine lv_aload_n hx hb d_p26m13_18 rfl (lv_at hl 2 rfl) ?_
      refine lv_iload_n hx hb d_p26m13_19 rfl (lv_at hl 0 rfl) ?_
      refine pd_bald X w hb2 (by omega) (by omega) d_p26m13_20 ?_
      refine lv_icmp_eq (tgt := 26) hx hb d_p26m13_21 (by decide) (fun q2 => ?_) (fun q2 => ?_)
      · -- taken: 26
        refine pd_iinc (k := 0) (d := 1) (lv' := [(2, .int (nI (i + 1))), (0, .ref v1), (1, .ref v2)]) hx hb d_p26m13_26 (by decide) hl rfl (by decide) rfl (fun ls hl => ?_)
        refine lv_goto (tgt := 9) hx hb d_p26m13_29 (by decide) ?_
        exact ih (i + 1) (by omega) (hle) (lt_s hj (tx_inj (tx_lt hc1 i) (tx_lt hc2 i) (by rw [← hf1 i (by omega), ← hf2 i (by omega)]; exact q2))) (by omega) _ _ w ls (lv_sub hl [0, 1, 2] rfl)
      · -- not taken: 24
        refine lv_iconst (v := nI 0) hx hb d_p26m13_24 (by decide) ?_
        refine W.eq (g2 := F0 m 25 ls [.int (pd_b false)]) rfl ?_
        exact pd_zret (v := false) X w ⟨(decide_eq_false (fun z => q2 (by subst z; rw [hf1 i (by omega), hf2 i (by omega)]))).symm, rfl⟩ (by decide) (by decide) d_p26m13_25
set_option maxHeartbeats 4000000 in
set_option maxRecDepth 100000 in
theorem c_StringLatin1_equals (l : Launch) (G : pd_G) (h : pd_H) {v1 v2 : Nat} {cs ds : List Nat} {f1 f2 : Nat → Int32} (ha : h v1 = some (0, .inl (.byte, cs.length, .inl f1))) (hb2 : h v2 = some (0, .inl (.byte, ds.length, .inl f2))) (hf1 : ∀ j, j < cs.length → f1 j = sb_b (cs.getD j 0)) (hf2 : ∀ j, j < ds.length → f2 j = sb_b (ds.getD j 0)) (hc1 : ∀ x ∈ cs, x < 256) (hc2 : ∀ x ∈ ds, x < 256) (hl1 : cs.length ≤ 60) (hl2 : ds.length ≤ 60) : pd_M l y_StringLatin1_equals prog_26_method_13_code 3 (some .boolean) rm_StringLatin1_equals G h [.ref v1, .ref v2] pd_vb (fun r h1 => r = decide (cs = ds) ∧ h = h1) := by
  refine pd_M.of (by decide) (Nat.le_of_ble_eq_true rfl) ?_
  intro p e s m below meth c X hmn w ls hl
  have hx := X.1
  have hb := X.2.1
  have hl : lv_has ls 3 [(0, .ref v1), (1, .ref v2)] := hl
  refine lv_aload_n hx hb d_p26m13_0 rfl (lv_at hl 0 rfl) ?_
  refine pd_alen X w ha d_p26m13_1 ?_
  refine lv_aload_n hx hb d_p26m13_2 rfl (lv_at hl 1 rfl) ?_
  refine pd_alen X w hb2 d_p26m13_3 ?_
  refine pd_jne (tgt := 34) hx hb d_p26m13_4 (by decide) (by omega) (by omega) (fun q1 => ?_) (fun q1 => ?_)
  · -- taken: 34
    refine lv_iconst (v := nI 0) hx hb d_p26m13_34 (by decide) ?_
    refine W.eq (g2 := F0 m 35 ls [.int (pd_b false)]) rfl ?_
    exact pd_zret (v := false) X w ⟨(decide_eq_false (fun z => q1 (by rw [z]))).symm, rfl⟩ (by decide) (by decide) d_p26m13_35
  · -- not taken: 7
    refine lv_iconst (v := nI 0) hx hb d_p26m13_7 (by decide) ?_
    refine lv_istore_n (lv' := [(2, .int (nI 0)), (0, .ref v1), (1, .ref v2)]) hx hb d_p26m13_8 rfl hl (by decide) rfl (fun ls hl => ?_)
    exact lp_StringLatin1_equals_9 l G h ha hb2 hf1 hf2 hc1 hc2 hl1 hl2 X hmn (cs.length + 1) 0 (by omega) (by omega) (by intro j hj; omega) (by omega) _ _ w ls (lv_sub hl [0, 1, 2] rfl)
theorem d_p24m66_0 : decode prog_24_method_66_code 0 = .ok (.aload_n 0, 1) := by decide +kernel
theorem d_p24m66_1 : decode prog_24_method_66_code 1 = .ok (.aload_n 1, 1) := by decide +kernel
theorem d_p24m66_2 : decode prog_24_method_66_code 2 = .ok (.if_acmp .ne 5, 3) := by decide +kernel
theorem d_p24m66_5 : decode prog_24_method_66_code 5 = .ok (.iconst 1, 1) := by decide +kernel
theorem d_p24m66_6 : decode prog_24_method_66_code 6 = .ok (.ireturn, 1) := by decide +kernel
theorem d_p24m66_7 : decode prog_24_method_66_code 7 = .ok (.aload_n 1, 1) := by decide +kernel
theorem d_p24m66_8 : decode prog_24_method_66_code 8 = .ok (.instanceof 10, 3) := by decide +kernel
theorem d_p24m66_11 : decode prog_24_method_66_code 11 = .ok (.ifCond .eq 43, 3) := by decide +kernel
theorem d_p24m66_14 : decode prog_24_method_66_code 14 = .ok (.aload_n 1, 1) := by decide +kernel
theorem d_p24m66_15 : decode prog_24_method_66_code 15 = .ok (.checkcast 10, 3) := by decide +kernel
theorem d_p24m66_18 : decode prog_24_method_66_code 18 = .ok (.astore_n 2, 1) := by decide +kernel
theorem d_p24m66_19 : decode prog_24_method_66_code 19 = .ok (.getstatic 38, 3) := by decide +kernel
theorem d_p24m66_22 : decode prog_24_method_66_code 22 = .ok (.ifCond .eq 14, 3) := by decide +kernel
theorem d_p24m66_25 : decode prog_24_method_66_code 25 = .ok (.aload_n 0, 1) := by decide +kernel
theorem d_p24m66_26 : decode prog_24_method_66_code 26 = .ok (.getfield 15, 3) := by decide +kernel
theorem d_p24m66_29 : decode prog_24_method_66_code 29 = .ok (.aload_n 2, 1) := by decide +kernel
theorem d_p24m66_30 : decode prog_24_method_66_code 30 = .ok (.getfield 15, 3) := by decide +kernel
theorem d_p24m66_33 : decode prog_24_method_66_code 33 = .ok (.if_icmp .ne 21, 3) := by decide +kernel
theorem d_p24m66_36 : decode prog_24_method_66_code 36 = .ok (.aload_n 0, 1) := by decide +kernel
theorem d_p24m66_37 : decode prog_24_method_66_code 37 = .ok (.getfield 9, 3) := by decide +kernel
theorem d_p24m66_40 : decode prog_24_method_66_code 40 = .ok (.aload_n 2, 1) := by decide +kernel
theorem d_p24m66_41 : decode prog_24_method_66_code 41 = .ok (.getfield 9, 3) := by decide +kernel
theorem d_p24m66_44 : decode prog_24_method_66_code 44 = .ok (.invokestatic 541, 3) := by decide +kernel
theorem d_p24m66_47 : decode prog_24_method_66_code 47 = .ok (.ifCond .eq 7, 3) := by decide +kernel
theorem d_p24m66_50 : decode prog_24_method_66_code 50 = .ok (.iconst 1, 1) := by decide +kernel
theorem d_p24m66_51 : decode prog_24_method_66_code 51 = .ok (.goto 4, 3) := by decide +kernel
theorem d_p24m66_54 : decode prog_24_method_66_code 54 = .ok (.iconst 0, 1) := by decide +kernel
theorem d_p24m66_55 : decode prog_24_method_66_code 55 = .ok (.ireturn, 1) := by decide +kernel
abbrev y_String_equals : MethodName := ⟨"java/lang/String", "equals", "(Ljava/lang/Object;)Z"⟩
theorem ok_String_equals : pd_ok y_String_equals prog_24_method_66_code 3 (some .boolean) 1 := ⟨mT_615, mT_4, by decide, by decide +kernel⟩
abbrev rm_String_equals : Room := { frames := 1, cells := 0, slots := 0, locals := 22 }
set_option maxHeartbeats 4000000 in
set_option maxRecDepth 100000 in
theorem c_String_equals (l : Launch) (G : pd_G) (h : pd_H) {a : Nat} {cs : List Nat} {a2 : Nat} {ds : List Nat} (hS : pd_Str h a cs) (hS2 : pd_Str h a2 ds) : pd_M l y_String_equals prog_24_method_66_code 3 (some .boolean) rm_String_equals G h [.ref a, .ref a2] pd_vb (fun r h1 => r = decide (cs = ds) ∧ h = h1) := by
  refine pd_M.of (by decide) (Nat.le_of_ble_eq_true rfl) ?_
  intro p e s m below meth c X hmn w ls hl
  have hx := X.1
  have hb := X.2.1
  have hl : lv_has ls 3 [(0, .ref a), (1, .ref a2)] := hl
  obtain ⟨v1, f1, hv1, hv2, hvf, hvc, hvl⟩ := id hS
  obtain ⟨v2, f2, hu1, hu2, huf, huc, hul⟩ := id hS2
  refine lv_aload_n hx hb d_p24m66_0 rfl (lv_at hl 0 rfl) ?_
  refine lv_aload_n hx hb d_p24m66_1 rfl (lv_at hl 1 rfl) ?_
  refine lv_acmp_ne (rx := (some a)) (ry := (some a2)) (tgt := 7) hx hb d_p24m66_2 (by decide) (fun q1 => ?_) (fun q1 => ?_)
  · -- taken: 7
    refine lv_aload_n hx hb d_p24m66_7 rfl (lv_at hl 1 rfl) ?_
    refine pd_instO X w hu1 rfl mT_616 d_p24m66_8 ?_
    refine pd_zeq (tgt := 54) hx hb d_p24m66_11 (by decide) (by decide) (fun q => absurd q (by decide)) (fun _ => ?_)
    refine lv_aload_n hx hb d_p24m66_14 rfl (lv_at hl 1 rfl) ?_
    refine pd_castO X w hu1 rfl mT_616 d_p24m66_15 ?_
    refine lv_astore_n (lv' := [(2, .ref a2), (0, .ref a), (1, .ref a2)]) hx hb d_p24m66_18 rfl hl (by decide) rfl (fun ls hl => ?_)
    refine pd_gets X w (List.mem_of_getElem? (i := 0) rfl) mT_100 d_p24m66_19 ?_
    refine pd_zeq (tgt := 36) hx hb d_p24m66_22 (by decide) (by decide) (fun q => absurd q (by decide)) (fun _ => ?_)
    refine lv_aload_n hx hb d_p24m66_25 rfl (lv_at hl 1 rfl) ?_
    refine pd_get X w hv1 rfl 1 (by decide) mT_521 rfl rfl d_p24m66_26 ?_
    refine lv_aload_n hx hb d_p24m66_29 rfl (lv_at hl 0 rfl) ?_
    refine pd_get X w hu1 rfl 1 (by decide) mT_521 rfl rfl d_p24m66_30 ?_
    refine pd_jne (tgt := 54) hx hb d_p24m66_33 (by decide) (by decide) (by decide) (fun q => absurd q (by decide)) (fun _ => ?_)
    refine lv_aload_n hx hb d_p24m66_36 rfl (lv_at hl 1 rfl) ?_
    refine pd_get X w hv1 rfl 0 (by decide) mT_520 rfl rfl d_p24m66_37 ?_
    refine lv_aload_n hx hb d_p24m66_40 rfl (lv_at hl 0 rfl) ?_
    refine pd_get X w hu1 rfl 0 (by decide) mT_520 rfl rfl d_p24m66_41 ?_
    refine pd_cS (As := [.ref v1, .ref v2]) (rest := []) X w (c_StringLatin1_equals l G h (by assumption) (by assumption) (by assumption) (by assumption) (by assumption) (by assumption) (by assumption) (by assumption)) ok_StringLatin1_equals mT_618 mT_617 ⟨by decide, by decide⟩ rfl hl.1 rfl (Nat.le_of_ble_eq_true rfl) d_p24m66_44 ⟨by decide, by decide⟩ (fun r5 h6 H locs hp7 w => ?_)
    refine W.widen (k := 0) (n := 0) (by decide) (by decide) ?_
    obtain ⟨e8, rfl⟩ := hp7
    refine pd_beq (tgt := 54) hx hb d_p24m66_47 (by decide) (fun q9 => ?_) (fun q9 => ?_)
    · -- taken: 54
      refine lv_iconst (v := nI 0) hx hb d_p24m66_54 (by decide) ?_
      refine W.eq (g2 := F0 m 55 ls [.int (pd_b false)]) rfl ?_
      exact pd_zret (v := false) X w ⟨by simp_all, rfl⟩ (by decide) (by decide) d_p24m66_55
    · -- not taken: 50
      refine lv_iconst (v := nI 1) hx hb d_p24m66_50 (by decide) ?_
      refine lv_goto (tgt := 55) hx hb d_p24m66_51 (by decide) ?_
      refine W.eq (g2 := F0 m 55 ls [.int (pd_b true)]) rfl ?_
      exact pd_zret (v := true) X w ⟨by simp_all, rfl⟩ (by decide) (by decide) d_p24m66_55
  · -- not taken: 5
    refine lv_iconst (v := nI 1) hx hb d_p24m66_5 (by decide) ?_
    refine W.eq (g2 := F0 m 6 ls [.int (pd_b true)]) rfl ?_
    exact pd_zret (v := true) X w ⟨(decide_eq_true (by have z := Option.some.inj q1; subst z; exact tx_uniq hS hS2)).symm, rfl⟩ (by decide) (by decide) d_p24m66_6
theorem d_p26m4_0 : decode prog_26_method_4_code 0 = .ok (.iload_n 0, 1) := by decide +kernel
theorem d_p26m4_1 : decode prog_26_method_4_code 1 = .ok (.ifCond .lt 14, 3) := by decide +kernel
theorem d_p26m4_4 : decode prog_26_method_4_code 4 = .ok (.iload_n 0, 1) := by decide +kernel
theorem d_p26m4_5 : decode prog_26_method_4_code 5 = .ok (.sipush 255, 3) := by decide +kernel
theorem d_p26m4_8 : decode prog_26_method_4_code 8 = .ok (.if_icmp .gt 7, 3) := by decide +kernel
theorem d_p26m4_11 : decode prog_26_method_4_code 11 = .ok (.iconst 1, 1) := by decide +kernel
theorem d_p26m4_12 : decode prog_26_method_4_code 12 = .ok (.goto 4, 3) := by decide +kernel
theorem d_p26m4_15 : decode prog_26_method_4_code 15 = .ok (.iconst 0, 1) := by decide +kernel
theorem d_p26m4_16 : decode prog_26_method_4_code 16 = .ok (.ireturn, 1) := by decide +kernel
abbrev y_StringLatin1_canEncodeI : MethodName := ⟨"java/lang/StringLatin1", "canEncode", "(I)Z"⟩
theorem ok_StringLatin1_canEncodeI : pd_ok y_StringLatin1_canEncodeI prog_26_method_4_code 1 (some .boolean) 1 := ⟨mT_664, mT_8, by decide, by decide +kernel⟩
abbrev rm_StringLatin1_canEncodeI : Room := { frames := 0, cells := 0, slots := 0, locals := 0 }
set_option maxHeartbeats 4000000 in
set_option maxRecDepth 100000 in
theorem c_StringLatin1_canEncodeI (l : Launch) (G : pd_G) (h : pd_H) {ch : Nat} (hch : ch < 256) : pd_M l y_StringLatin1_canEncodeI prog_26_method_4_code 1 (some .boolean) rm_StringLatin1_canEncodeI G h [.int (nI ch)] pd_vb (fun r h1 => r = true ∧ h = h1) := by
  refine pd_M.of (by decide) (Nat.le_of_ble_eq_true rfl) ?_
  intro p e s m below meth c X hmn w ls hl
  have hx := X.1
  have hb := X.2.1
  have hl : lv_has ls 1 [(0, .int (nI ch))] := hl
  refine lv_iload_n hx hb d_p26m4_0 rfl (lv_at hl 0 rfl) ?_
  refine pd_zlt (tgt := 15) hx hb d_p26m4_1 (by decide) (by omega) ?_
  refine lv_iload_n hx hb d_p26m4_4 rfl (lv_at hl 0 rfl) ?_
  refine lv_sipush (v := nI 255) hx hb d_p26m4_5 (by decide) ?_
  refine pd_jgt (tgt := 15) hx hb d_p26m4_8 (by decide) (by omega) (by omega) (fun q2 => ?_) (fun q2 => ?_)
  · -- taken: 15
    exfalso
    omega
  · -- not taken: 11
    refine lv_iconst (v := nI 1) hx hb d_p26m4_11 (by decide) ?_
    refine lv_goto (tgt := 16) hx hb d_p26m4_12 (by decide) ?_
    refine W.eq (g2 := F0 m 16 ls [.int (pd_b true)]) rfl ?_
    exact pd_zret (v := true) X w ⟨rfl, rfl⟩ (by decide) (by decide) d_p26m4_16
theorem d_p26m23_0 : decode prog_26_method_23_code 0 = .ok (.iload_n 1, 1) := by decide +kernel
theorem d_p26m23_1 : decode prog_26_method_23_code 1 = .ok (.i2b, 1) := by decide +kernel
theorem d_p26m23_2 : decode prog_26_method_23_code 2 = .ok (.istore 4, 2) := by decide +kernel
theorem d_p26m23_4 : decode prog_26_method_23_code 4 = .ok (.iload_n 2, 1) := by decide +kernel
theorem d_p26m23_5 : decode prog_26_method_23_code 5 = .ok (.istore 5, 2) := by decide +kernel
theorem d_p26m23_7 : decode prog_26_method_23_code 7 = .ok (.iload 5, 2) := by decide +kernel
theorem d_p26m23_9 : decode prog_26_method_23_code 9 = .ok (.iload_n 3, 1) := by decide +kernel
theorem d_p26m23_10 : decode prog_26_method_23_code 10 = .ok (.if_icmp .ge 21, 3) := by decide +kernel
theorem d_p26m23_13 : decode prog_26_method_23_code 13 = .ok (.aload_n 0, 1) := by decide +kernel
theorem d_p26m23_14 : decode prog_26_method_23_code 14 = .ok (.iload 5, 2) := by decide +kernel
theorem d_p26m23_16 : decode prog_26_method_23_code 16 = .ok (.baload, 1) := by decide +kernel
theorem d_p26m23_17 : decode prog_26_method_23_code 17 = .ok (.iload 4, 2) := by decide +kernel
theorem d_p26m23_19 : decode prog_26_method_23_code 19 = .ok (.if_icmp .ne 6, 3) := by decide +kernel
theorem d_p26m23_22 : decode prog_26_method_23_code 22 = .ok (.iload 5, 2) := by decide +kernel
theorem d_p26m23_24 : decode prog_26_method_23_code 24 = .ok (.ireturn, 1) := by decide +kernel
theorem d_p26m23_25 : decode prog_26_method_23_code 25 = .ok (.iinc 5 1, 3) := by decide +kernel
theorem d_p26m23_28 : decode prog_26_method_23_code 28 = .ok (.goto (-21), 3) := by decide +kernel
theorem d_p26m23_31 : decode prog_26_method_23_code 31 = .ok (.iconst (-1), 1) := by decide +kernel
theorem d_p26m23_32 : decode prog_26_method_23_code 32 = .ok (.ireturn, 1) := by decide +kernel
abbrev y_StringLatin1_indexOfChar : MethodName := ⟨"java/lang/StringLatin1", "indexOfChar", "([BIII)I"⟩
theorem ok_StringLatin1_indexOfChar : pd_ok y_StringLatin1_indexOfChar prog_26_method_23_code 6 (some .int) 4 := ⟨mT_669, mT_8, by decide, by decide +kernel⟩
abbrev rm_StringLatin1_indexOfChar : Room := { frames := 0, cells := 0, slots := 0, locals := 0 }
set_option maxHeartbeats 4000000 in
set_option maxRecDepth 100000 in
theorem lp_StringLatin1_indexOfChar_7 (l : Launch) (G : pd_G) (h : pd_H) {v1 ch : Nat} {cs : List Nat} {f1 : Nat → Int32} (ha : h v1 = some (0, .inl (.byte, cs.length, .inl f1))) (hf1 : ∀ j, j < cs.length → f1 j = sb_b (cs.getD j 0)) (hc1 : ∀ x ∈ cs, x < 256) (hl1 : cs.length ≤ 60) (hch : ch < 256) {p : Program} {e : Env} {s : State} {m : MethodId} {below : List Frame} {meth : Method} {c : Code} (X : pd_B p s m [.ref v1, .int (nI ch), .int (nI 0), .int (nI cs.length)].toArray meth c G y_StringLatin1_indexOfChar.cls prog_26_method_23_code 6 (some .int)) (hmn : meth.name = y_StringLatin1_indexOfChar.name) :
    ∀ (kk9 : Nat) (i : Nat), (i ≤ cs.length) → (∀ j, j < i → ¬ cs.getD j 0 = ch) → cs.length - i < kk9 → ∀ (H : Heap) (locs : List Loc), pd_w G s H locs h → ∀ ls : Array Slot, lv_has ls 6 [(5, .int (nI i)), (4, .int ((nI ch).toInt8.toInt32)), (0, .ref v1), (3, .int (nI cs.length))] → W p l e rm_StringLatin1_indexOfChar s m [.ref v1, .int (nI ch), .int (nI 0), .int (nI cs.length)].toArray below meth c H locs 0 0 (MQ below (pd_Q G pd_vm (fun r h1 => r = tx_ix cs ch ∧ h = h1)) [.ref v1, .int (nI ch), .int (nI 0), .int (nI cs.length)].toArray s rm_StringLatin1_indexOfChar.cells rm_StringLatin1_indexOfChar.slots (fun q => G.2.1 ≤ q)) (F0 m 7 ls []) := by
  have hx := X.1
  have hb := X.2.1
  intro kk9
  induction kk9 with
  | zero => intros; omega
  | succ kk9 ih =>
    intro i hi hj hmu H locs w ls hl
    refine lv_iload hx hb d_p26m23_7 (lv_at hl 0 rfl) ?_
    refine lv_iload_n hx hb d_p26m23_9 rfl (lv_at hl 3 rfl) ?_
    refine pd_jge (tgt := 31) hx hb d_p26m23_10 (by decide) (by omega) (by omega) (fun q1 => ?_) (fun q1 => ?_)
    · -- taken: 31
      refine lv_iconst (v := -1) hx hb d_p26m23_31 (by decide) ?_
      refine W.eq (g2 := F0 m 32 ls [.int (pd_m none)]) rfl ?_
      exact pd_mret (v := none) X w ⟨(tx_ix_none (fun j hj2 => hj j (by omega))).symm, rfl⟩ (by decide) (by decide) d_p26m23_32
    · -- not taken: 13
      refine lv_aload_n hx hb d_p26m23_13 rfl (lv_at hl 2 rfl) ?_
      refine lv_iload hx hb d_p26m23_14 (lv_at hl 0 rfl) ?_
      refine pd_bald X w ha (by omega) (by omega) d_p26m23_16 ?_
      refine lv_iload hx hb d_p26m23_17 (lv_at hl 1 rfl) ?_
      refine lv_icmp_ne (tgt := 25) hx hb d_p26m23_19 (by decide) (fun q2 => ?_) (fun q2 => ?_)
      · -- taken: 25
        refine pd_iinc (k := 0) (d := 1) (lv' := [(5, .int (nI (i + 1))), (4, .int ((nI ch).toInt8.toInt32)), (0, .ref v1), (3, .int (nI cs.length))]) hx hb d_p26m23_25 (by decide) hl rfl (by decide) rfl (fun ls hl => ?_)
        refine lv_goto (tgt := 7) hx hb d_p26m23_28 (by decide) ?_
        exact ih (i + 1) (by omega) (lt_s hj (fun z => q2 (by rw [hf1 i (by omega), z]; rfl))) (by omega) _ _ w ls (lv_sub hl [0, 1, 2, 3] rfl)
      · -- not taken: 22
        refine lv_iload hx hb d_p26m23_22 (lv_at hl 0 rfl) ?_
        refine W.eq (g2 := F0 m 24 ls [.int (pd_m (some i))]) rfl ?_
        exact pd_mret (v := (some i)) X w ⟨(tx_ix_some (by omega) hj (tx_inj (tx_lt hc1 i) hch (by rw [← hf1 i (by omega)]; exact q2))).symm, rfl⟩ (by decide) (by decide) d_p26m23_24
set_option maxHeartbeats 4000000 in
set_option maxRecDepth 100000 in
theorem c_StringLatin1_indexOfChar (l : Launch) (G : pd_G) (h : pd_H) {v1 ch : Nat} {cs : List Nat} {f1 : Nat → Int32} (ha : h v1 = some (0, .inl (.byte, cs.length, .inl f1))) (hf1 : ∀ j, j < cs.length → f1 j = sb_b (cs.getD j 0)) (hc1 : ∀ x ∈ cs, x < 256) (hl1 : cs.length ≤ 60) (hch : ch < 256) : pd_M l y_StringLatin1_indexOfChar prog_26_method_23_code 6 (some .int) rm_StringLatin1_indexOfChar G h [.ref v1, .int (nI ch), .int (nI 0), .int (nI cs.length)] pd_vm (fun r h1 => r = tx_ix cs ch ∧ h = h1) := by
  refine pd_M.of (by decide) (Nat.le_of_ble_eq_true rfl) ?_
  intro p e s m below meth c X hmn w ls hl
  have hx := X.1
  have hb := X.2.1
  have hl : lv_has ls 6 [(0, .ref v1), (1, .int (nI ch)), (2, .int (nI 0)), (3, .int (nI cs.length))] := hl
  refine lv_iload_n hx hb d_p26m23_0 rfl (lv_at hl 1 rfl) ?_
  refine lv_i2b hx hb d_p26m23_1 rfl ?_
  refine lv_istore (lv' := [(4, .int ((nI ch).toInt8.toInt32)), (0, .ref v1), (1, .int (nI ch)), (2, .int (nI 0)), (3, .int (nI cs.length))]) hx hb d_p26m23_2 hl (by decide) rfl (fun ls hl => ?_)
  refine lv_iload_n hx hb d_p26m23_4 rfl (lv_at hl 3 rfl) ?_
  refine lv_istore (lv' := [(5, .int (nI 0)), (4, .int ((nI ch).toInt8.toInt32)), (0, .ref v1), (1, .int (nI ch)), (2, .int (nI 0)), (3, .int (nI cs.length))]) hx hb d_p26m23_5 hl (by decide) rfl (fun ls hl => ?_)
  exact lp_StringLatin1_indexOfChar_7 l G h ha hf1 hc1 hl1 hch X hmn (cs.length + 1) 0 (by omega) (by intro j hj; omega) (by omega) _ _ w ls (lv_sub hl [0, 1, 2, 5] rfl)
theorem d_p26m22_0 : decode prog_26_method_22_code 0 = .ok (.iload_n 1, 1) := by decide +kernel
theorem d_p26m22_1 : decode prog_26_method_22_code 1 = .ok (.invokestatic 88, 3) := by decide +kernel
theorem d_p26m22_4 : decode prog_26_method_22_code 4 = .ok (.ifCond .ne 5, 3) := by decide +kernel
theorem d_p26m22_7 : decode prog_26_method_22_code 7 = .ok (.iconst (-1), 1) := by decide +kernel
theorem d_p26m22_8 : decode prog_26_method_22_code 8 = .ok (.ireturn, 1) := by decide +kernel
theorem d_p26m22_9 : decode prog_26_method_22_code 9 = .ok (.iload_n 2, 1) := by decide +kernel
theorem d_p26m22_10 : decode prog_26_method_22_code 10 = .ok (.iconst 0, 1) := by decide +kernel
theorem d_p26m22_11 : decode prog_26_method_22_code 11 = .ok (.invokestatic 92, 3) := by decide +kernel
theorem d_p26m22_14 : decode prog_26_method_22_code 14 = .ok (.istore_n 2, 1) := by decide +kernel
theorem d_p26m22_15 : decode prog_26_method_22_code 15 = .ok (.iload_n 3, 1) := by decide +kernel
theorem d_p26m22_16 : decode prog_26_method_22_code 16 = .ok (.aload_n 0, 1) := by decide +kernel
theorem d_p26m22_17 : decode prog_26_method_22_code 17 = .ok (.arraylength, 1) := by decide +kernel
theorem d_p26m22_18 : decode prog_26_method_22_code 18 = .ok (.invokestatic 38, 3) := by decide +kernel
theorem d_p26m22_21 : decode prog_26_method_22_code 21 = .ok (.istore_n 3, 1) := by decide +kernel
theorem d_p26m22_22 : decode prog_26_method_22_code 22 = .ok (.iload_n 2, 1) := by decide +kernel
theorem d_p26m22_23 : decode prog_26_method_22_code 23 = .ok (.iload_n 3, 1) := by decide +kernel
theorem d_p26m22_24 : decode prog_26_method_22_code 24 = .ok (.if_icmp .lt 5, 3) := by decide +kernel
theorem d_p26m22_27 : decode prog_26_method_22_code 27 = .ok (.iconst (-1), 1) := by decide +kernel
theorem d_p26m22_28 : decode prog_26_method_22_code 28 = .ok (.ireturn, 1) := by decide +kernel
theorem d_p26m22_29 : decode prog_26_method_22_code 29 = .ok (.aload_n 0, 1) := by decide +kernel
theorem d_p26m22_30 : decode prog_26_method_22_code 30 = .ok (.iload_n 1, 1) := by decide +kernel
theorem d_p26m22_31 : decode prog_26_method_22_code 31 = .ok (.iload_n 2, 1) := by decide +kernel
theorem d_p26m22_32 : decode prog_26_method_22_code 32 = .ok (.iload_n 3, 1) := by decide +kernel
theorem d_p26m22_33 : decode prog_26_method_22_code 33 = .ok (.invokestatic 95, 3) := by decide +kernel
theorem d_p26m22_36 : decode prog_26_method_22_code 36 = .ok (.ireturn, 1) := by decide +kernel
abbrev y_StringLatin1_indexOf : MethodName := ⟨"java/lang/StringLatin1", "indexOf", "([BIII)I"⟩
theorem ok_StringLatin1_indexOf : pd_ok y_StringLatin1_indexOf prog_26_method_22_code 4 (some .int) 4 := ⟨mT_661, mT_8, by decide, by decide +kernel⟩
abbrev rm_StringLatin1_indexOf : Room := { frames := 1, cells := 0, slots := 0, locals := 25 }
set_option maxHeartbeats 4000000 in
set_option maxRecDepth 100000 in
theorem c_StringLatin1_indexOf (l : Launch) (G : pd_G) (h : pd_H) {v1 ch : Nat} {cs : List Nat} {f1 : Nat → Int32} (ha : h v1 = some (0, .inl (.byte, cs.length, .inl f1))) (hf1 : ∀ j, j < cs.length → f1 j = sb_b (cs.getD j 0)) (hc1 : ∀ x ∈ cs, x < 256) (hl1 : cs.length ≤ 60) (hch : ch < 256) : pd_M l y_StringLatin1_indexOf prog_26_method_22_code 4 (some .int) rm_StringLatin1_indexOf G h [.ref v1, .int (nI ch), .int (nI 0), .int (nI cs.length)] pd_vm (fun r h1 => r = tx_ix cs ch ∧ h = h1) := by
  refine pd_M.of (by decide) (Nat.le_of_ble_eq_true rfl) ?_
  intro p e s m below meth c X hmn w ls hl
  have hx := X.1
  have hb := X.2.1
  have hl : lv_has ls 4 [(0, .ref v1), (1, .int (nI ch)), (2, .int (nI 0)), (3, .int (nI cs.length))] := hl
  refine lv_iload_n hx hb d_p26m22_0 rfl (lv_at hl 1 rfl) ?_
  refine pd_cS (As := [.int (nI ch)]) (rest := []) X w (c_StringLatin1_canEncodeI l G h (by omega)) ok_StringLatin1_canEncodeI mT_663 mT_662 ⟨by decide, by decide⟩ rfl hl.1 rfl (Nat.le_of_ble_eq_true rfl) d_p26m22_1 ⟨by decide, by decide⟩ (fun r1 h2 H locs hp3 w => ?_)
  refine W.widen (k := 0) (n := 0) (by decide) (by decide) ?_
  obtain ⟨e4, rfl⟩ := hp3
  subst e4
  refine W.eq (g2 := F0 m 4 ls [.int (nI 1)]) rfl ?_
  refine pd_zne (tgt := 9) hx hb d_p26m22_4 (by decide) (by decide) (fun _ => ?_) (fun q => absurd q (by decide))
  refine lv_iload_n hx hb d_p26m22_9 rfl (lv_at hl 2 rfl) ?_
  refine lv_iconst (v := nI 0) hx hb d_p26m22_10 (by decide) ?_
  refine pd_mmax X hl.1 (by omega) (by omega) mT_665 mT_210 mT_15 mT_211 (by decide) (Nat.le_of_ble_eq_true rfl) (by decide) (by decide) d_p26m22_11 ?_
  refine pd_top (v' := .int (nI 0)) (by simp) ?_
  refine lv_istore_n (lv' := [(2, .int (nI 0)), (0, .ref v1), (1, .int (nI ch)), (3, .int (nI cs.length))]) hx hb d_p26m22_14 rfl hl (by decide) rfl (fun ls hl => ?_)
  refine lv_iload_n hx hb d_p26m22_15 rfl (lv_at hl 3 rfl) ?_
  refine lv_aload_n hx hb d_p26m22_16 rfl (lv_at hl 1 rfl) ?_
  refine pd_alen X w ha d_p26m22_17 ?_
  refine pd_mmin X hl.1 (by omega) (by omega) mT_666 mT_245 mT_15 mT_246 (by decide) (Nat.le_of_ble_eq_true rfl) (by decide) (by decide) d_p26m22_18 ?_
  refine pd_top (v' := .int (nI cs.length)) (by simp) ?_
  refine lv_istore_n (lv' := [(3, .int (nI cs.length)), (2, .int (nI 0)), (0, .ref v1), (1, .int (nI ch))]) hx hb d_p26m22_21 rfl hl (by decide) rfl (fun ls hl => ?_)
  refine lv_iload_n hx hb d_p26m22_22 rfl (lv_at hl 1 rfl) ?_
  refine lv_iload_n hx hb d_p26m22_23 rfl (lv_at hl 0 rfl) ?_
  refine pd_jlt (tgt := 29) hx hb d_p26m22_24 (by decide) (by omega) (by omega) (fun q6 => ?_) (fun q6 => ?_)
  · -- taken: 29
    refine lv_aload_n hx hb d_p26m22_29 rfl (lv_at hl 2 rfl) ?_
    refine lv_iload_n hx hb d_p26m22_30 rfl (lv_at hl 3 rfl) ?_
    refine lv_iload_n hx hb d_p26m22_31 rfl (lv_at hl 1 rfl) ?_
    refine lv_iload_n hx hb d_p26m22_32 rfl (lv_at hl 0 rfl) ?_
    refine pd_cS (As := [.ref v1, .int (nI ch), .int (nI 0), .int (nI cs.length)]) (rest := []) X w (c_StringLatin1_indexOfChar l G h (by assumption) (by assumption) (by assumption) (by assumption) (by omega)) ok_StringLatin1_indexOfChar mT_668 mT_667 ⟨by decide, by decide⟩ rfl hl.1 rfl (Nat.le_of_ble_eq_true rfl) d_p26m22_33 ⟨by decide, by decide⟩ (fun r7 h8 H locs hp9 w => ?_)
    refine W.widen (k := 0) (n := 0) (by decide) (by decide) ?_
    obtain ⟨e10, rfl⟩ := hp9
    exact pd_mret (v := r7) X w ⟨by assumption, rfl⟩ (by decide) (by decide) d_p26m22_36
  · -- not taken: 27
    refine lv_iconst (v := -1) hx hb d_p26m22_27 (by decide) ?_
    refine W.eq (g2 := F0 m 28 ls [.int (pd_m none)]) rfl ?_
    exact pd_mret (v := none) X w ⟨(tx_ix_none (fun j hj2 => by omega)).symm, rfl⟩ (by decide) (by decide) d_p26m22_28
theorem d_p24m80_0 : decode prog_24_method_80_code 0 = .ok (.aload_n 0, 1) := by decide +kernel
theorem d_p24m80_1 : decode prog_24_method_80_code 1 = .ok (.invokevirtual 492, 3) := by decide +kernel
theorem d_p24m80_4 : decode prog_24_method_80_code 4 = .ok (.ifCond .eq 19, 3) := by decide +kernel
theorem d_p24m80_7 : decode prog_24_method_80_code 7 = .ok (.aload_n 0, 1) := by decide +kernel
theorem d_p24m80_8 : decode prog_24_method_80_code 8 = .ok (.getfield 9, 3) := by decide +kernel
theorem d_p24m80_11 : decode prog_24_method_80_code 11 = .ok (.iload_n 1, 1) := by decide +kernel
theorem d_p24m80_12 : decode prog_24_method_80_code 12 = .ok (.iload_n 2, 1) := by decide +kernel
theorem d_p24m80_13 : decode prog_24_method_80_code 13 = .ok (.aload_n 0, 1) := by decide +kernel
theorem d_p24m80_14 : decode prog_24_method_80_code 14 = .ok (.invokevirtual 505, 3) := by decide +kernel
theorem d_p24m80_17 : decode prog_24_method_80_code 17 = .ok (.invokestatic 637, 3) := by decide +kernel
theorem d_p24m80_20 : decode prog_24_method_80_code 20 = .ok (.goto 16, 3) := by decide +kernel
theorem d_p24m80_23 : decode prog_24_method_80_code 23 = .ok (.aload_n 0, 1) := by decide +kernel
theorem d_p24m80_24 : decode prog_24_method_80_code 24 = .ok (.getfield 9, 3) := by decide +kernel
theorem d_p24m80_27 : decode prog_24_method_80_code 27 = .ok (.iload_n 1, 1) := by decide +kernel
theorem d_p24m80_28 : decode prog_24_method_80_code 28 = .ok (.iload_n 2, 1) := by decide +kernel
theorem d_p24m80_29 : decode prog_24_method_80_code 29 = .ok (.aload_n 0, 1) := by decide +kernel
theorem d_p24m80_30 : decode prog_24_method_80_code 30 = .ok (.invokevirtual 505, 3) := by decide +kernel
theorem d_p24m80_33 : decode prog_24_method_80_code 33 = .ok (.invokestatic 640, 3) := by decide +kernel
theorem d_p24m80_36 : decode prog_24_method_80_code 36 = .ok (.ireturn, 1) := by decide +kernel
abbrev y_String_indexOf2 : MethodName := ⟨"java/lang/String", "indexOf", "(II)I"⟩
theorem ok_String_indexOf2 : pd_ok y_String_indexOf2 prog_24_method_80_code 3 (some .int) 2 := ⟨mT_658, mT_4, by decide, by decide +kernel⟩
abbrev rm_String_indexOf2 : Room := { frames := 2, cells := 0, slots := 0, locals := 48 }
set_option maxHeartbeats 4000000 in
set_option maxRecDepth 100000 in
theorem c_String_indexOf2 (l : Launch) (G : pd_G) (h : pd_H) {a : Nat} {cs : List Nat} {ch : Nat} (hS : pd_Str h a cs) (hch : ch < 256) : pd_M l y_String_indexOf2 prog_24_method_80_code 3 (some .int) rm_String_indexOf2 G h [.ref a, .int (nI ch), .int (nI 0)] pd_vm (fun r h1 => r = tx_ix cs ch ∧ h = h1) := by
  refine pd_M.of (by decide) (Nat.le_of_ble_eq_true rfl) ?_
  intro p e s m below meth c X hmn w ls hl
  have hx := X.1
  have hb := X.2.1
  have hl : lv_has ls 3 [(0, .ref a), (1, .int (nI ch)), (2, .int (nI 0))] := hl
  obtain ⟨v1, f1, hv1, hv2, hvf, hvc, hvl⟩ := id hS
  refine lv_aload_n hx hb d_p24m80_0 rfl (lv_at hl 0 rfl) ?_
  refine pd_cV (a := a) (As := []) (rest := []) X w hv1 rfl (c_String_isLatin1 l G h (by assumption)) ok_String_isLatin1 ⟨mT_106, mT_107⟩ mT_105 ⟨by decide, by decide⟩ rfl hl.1 rfl (Nat.le_of_ble_eq_true rfl) d_p24m80_1 ⟨by decide, by decide⟩ (fun r1 h2 H locs hp3 w => ?_)
  refine W.widen (k := 0) (n := 0) (by decide) (by decide) ?_
  obtain ⟨e4, rfl⟩ := hp3
  subst e4
  refine W.eq (g2 := F0 m 4 ls [.int (nI 1)]) rfl ?_
  refine pd_zeq (tgt := 23) hx hb d_p24m80_4 (by decide) (by decide) (fun q => absurd q (by decide)) (fun _ => ?_)
  refine lv_aload_n hx hb d_p24m80_7 rfl (lv_at hl 0 rfl) ?_
  refine pd_get X w hv1 rfl 0 (by decide) mT_520 rfl rfl d_p24m80_8 ?_
  refine lv_iload_n hx hb d_p24m80_11 rfl (lv_at hl 1 rfl) ?_
  refine lv_iload_n hx hb d_p24m80_12 rfl (lv_at hl 2 rfl) ?_
  refine lv_aload_n hx hb d_p24m80_13 rfl (lv_at hl 0 rfl) ?_
  refine pd_cV (a := a) (As := []) (rest := [.int (nI 0), .int (nI ch), .ref v1]) X w hv1 rfl (c_String_length l G h (by assumption)) ok_String_length ⟨mT_93, mT_94⟩ mT_582 ⟨by decide, by decide⟩ rfl hl.1 rfl (Nat.le_of_ble_eq_true rfl) d_p24m80_14 ⟨by decide, by decide⟩ (fun r6 h7 H locs hp8 w => ?_)
  refine W.widen (k := 0) (n := 0) (by decide) (by decide) ?_
  obtain ⟨e9, rfl⟩ := hp8
  subst e9
  refine pd_cS (As := [.ref v1, .int (nI ch), .int (nI 0), .int (nI cs.length)]) (rest := []) X w (c_StringLatin1_indexOf l G h (by assumption) (by assumption) (by assumption) (by assumption) (by omega)) ok_StringLatin1_indexOf mT_660 mT_659 ⟨by decide, by decide⟩ rfl hl.1 rfl (Nat.le_of_ble_eq_true rfl) d_p24m80_17 ⟨by decide, by decide⟩ (fun r10 h11 H locs hp12 w => ?_)
  refine W.widen (k := 0) (n := 0) (by decide) (by decide) ?_
  obtain ⟨e13, rfl⟩ := hp12
  refine lv_goto (tgt := 36) hx hb d_p24m80_20 (by decide) ?_
  exact pd_mret (v := r10) X w ⟨by assumption, rfl⟩ (by decide) (by decide) d_p24m80_36
theorem d_p24m79_0 : decode prog_24_method_79_code 0 = .ok (.aload_n 0, 1) := by decide +kernel
theorem d_p24m79_1 : decode prog_24_method_79_code 1 = .ok (.iload_n 1, 1) := by decide +kernel
theorem d_p24m79_2 : decode prog_24_method_79_code 2 = .ok (.iconst 0, 1) := by decide +kernel
theorem d_p24m79_3 : decode prog_24_method_79_code 3 = .ok (.invokevirtual 633, 3) := by decide +kernel
theorem d_p24m79_6 : decode prog_24_method_79_code 6 = .ok (.ireturn, 1) := by decide +kernel
abbrev y_String_indexOf : MethodName := ⟨"java/lang/String", "indexOf", "(I)I"⟩
theorem ok_String_indexOf : pd_ok y_String_indexOf prog_24_method_79_code 2 (some .int) 1 := ⟨mT_654, mT_4, by decide, by decide +kernel⟩
abbrev rm_String_indexOf : Room := { frames := 3, cells := 0, slots := 0, locals := 70 }
set_option maxHeartbeats 4000000 in
set_option maxRecDepth 100000 in
theorem c_String_indexOf (l : Launch) (G : pd_G) (h : pd_H) {a : Nat} {cs : List Nat} {ch : Nat} (hS : pd_Str h a cs) (hch : ch < 256) : pd_M l y_String_indexOf prog_24_method_79_code 2 (some .int) rm_String_indexOf G h [.ref a, .int (nI ch)] pd_vm (fun r h1 => r = tx_ix cs ch ∧ h = h1) := by
  refine pd_M.of (by decide) (Nat.le_of_ble_eq_true rfl) ?_
  intro p e s m below meth c X hmn w ls hl
  have hx := X.1
  have hb := X.2.1
  have hl : lv_has ls 2 [(0, .ref a), (1, .int (nI ch))] := hl
  obtain ⟨v1, f1, hv1, hv2, hvf, hvc, hvl⟩ := id hS
  refine lv_aload_n hx hb d_p24m79_0 rfl (lv_at hl 0 rfl) ?_
  refine lv_iload_n hx hb d_p24m79_1 rfl (lv_at hl 1 rfl) ?_
  refine lv_iconst (v := nI 0) hx hb d_p24m79_2 (by decide) ?_
  refine pd_cV (a := a) (As := [.int (nI ch), .int (nI 0)]) (rest := []) X w hv1 rfl (c_String_indexOf2 l G h (by assumption) (by omega)) ok_String_indexOf2 ⟨mT_656, mT_657⟩ mT_655 ⟨by decide, by decide⟩ rfl hl.1 rfl (Nat.le_of_ble_eq_true rfl) d_p24m79_3 ⟨by decide, by decide⟩ (fun r1 h2 H locs hp3 w => ?_)
  refine W.widen (k := 0) (n := 0) (by decide) (by decide) ?_
  obtain ⟨e4, rfl⟩ := hp3
  exact pd_mret (v := r1) X w ⟨by assumption, rfl⟩ (by decide) (by decide) d_p24m79_6
