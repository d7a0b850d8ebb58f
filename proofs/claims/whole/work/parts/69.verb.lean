/-! the verb 'interface' of the reference; a member's line of a wrong length -/
theorem upd_back {f : Nat → Int32} {i : Nat} {a b : Int32} (h : f i = b) : upd (upd f i a) i b = f := by
  funext x
  by_cases e : x = i
  · subst e
    rw [pk_us, h]
  · rw [pk_un e, pk_un e]
theorem gm_W_e0 {fv : Nat → Nat → Int32} {cs : List Nat} {nw : Nat} {sA eA : Nat → Nat} (hW : gm_W fv cs nw sA eA) (h0 : 0 < nw) (hs : sA 0 = 0) (h9 : eA 0 = 9) : gm_W (pd_fu fv 2 (upd (fv 2) 0 (nI 8))) cs nw sA (pd_fu eA 0 8) := by
  refine ⟨hW.1, fun i hi => ?_⟩
  obtain ⟨a, b, c9, d⟩ := hW.2 i hi
  by_cases e : i = 0
  · subst e
    exact ⟨a, (by show upd (fv 2) 0 (nI 8) 0 = nI 8; exact pk_us), by show sA 0 < 8; omega, by show 8 ≤ cs.length; omega⟩
  · have e1 : pd_fu eA 0 8 i = eA i := pd_fu_n e
    rw [e1]
    exact ⟨a, (by show upd (fv 2) 0 (nI 8) i = nI (eA i); exact (pk_un e).trans b), c9, d⟩
theorem d_p15m29_0 : decode prog_15_method_29_code 0 = .ok (.aload_n 0, 1) := by decide +kernel
theorem d_p15m29_1 : decode prog_15_method_29_code 1 = .ok (.getfield 16, 3) := by decide +kernel
theorem d_p15m29_4 : decode prog_15_method_29_code 4 = .ok (.iconst 0, 1) := by decide +kernel
theorem d_p15m29_5 : decode prog_15_method_29_code 5 = .ok (.iaload, 1) := by decide +kernel
theorem d_p15m29_6 : decode prog_15_method_29_code 6 = .ok (.bipush 9, 2) := by decide +kernel
theorem d_p15m29_8 : decode prog_15_method_29_code 8 = .ok (.if_icmp .ne 15, 3) := by decide +kernel
theorem d_p15m29_11 : decode prog_15_method_29_code 11 = .ok (.aload_n 0, 1) := by decide +kernel
theorem d_p15m29_12 : decode prog_15_method_29_code 12 = .ok (.getfield 7, 3) := by decide +kernel
theorem d_p15m29_15 : decode prog_15_method_29_code 15 = .ok (.bipush 8, 2) := by decide +kernel
theorem d_p15m29_17 : decode prog_15_method_29_code 17 = .ok (.iaload, 1) := by decide +kernel
theorem d_p15m29_18 : decode prog_15_method_29_code 18 = .ok (.bipush 101, 2) := by decide +kernel
theorem d_p15m29_20 : decode prog_15_method_29_code 20 = .ok (.if_icmp .eq 5, 3) := by decide +kernel
theorem d_p15m29_23 : decode prog_15_method_29_code 23 = .ok (.iconst 0, 1) := by decide +kernel
theorem d_p15m29_24 : decode prog_15_method_29_code 24 = .ok (.ireturn, 1) := by decide +kernel
theorem d_p15m29_25 : decode prog_15_method_29_code 25 = .ok (.aload_n 0, 1) := by decide +kernel
theorem d_p15m29_26 : decode prog_15_method_29_code 26 = .ok (.getfield 16, 3) := by decide +kernel
theorem d_p15m29_29 : decode prog_15_method_29_code 29 = .ok (.iconst 0, 1) := by decide +kernel
theorem d_p15m29_30 : decode prog_15_method_29_code 30 = .ok (.bipush 8, 2) := by decide +kernel
theorem d_p15m29_32 : decode prog_15_method_29_code 32 = .ok (.iastore, 1) := by decide +kernel
theorem d_p15m29_33 : decode prog_15_method_29_code 33 = .ok (.aload_n 0, 1) := by decide +kernel
theorem d_p15m29_34 : decode prog_15_method_29_code 34 = .ok (.iconst 0, 1) := by decide +kernel
theorem d_p15m29_35 : decode prog_15_method_29_code 35 = .ok (.ldc2_w 231, 3) := by decide +kernel
theorem d_p15m29_38 : decode prog_15_method_29_code 38 = .ok (.bipush 8, 2) := by decide +kernel
theorem d_p15m29_40 : decode prog_15_method_29_code 40 = .ok (.invokevirtual 182, 3) := by decide +kernel
theorem d_p15m29_43 : decode prog_15_method_29_code 43 = .ok (.istore_n 1, 1) := by decide +kernel
theorem d_p15m29_44 : decode prog_15_method_29_code 44 = .ok (.aload_n 0, 1) := by decide +kernel
theorem d_p15m29_45 : decode prog_15_method_29_code 45 = .ok (.getfield 16, 3) := by decide +kernel
theorem d_p15m29_48 : decode prog_15_method_29_code 48 = .ok (.iconst 0, 1) := by decide +kernel
theorem d_p15m29_49 : decode prog_15_method_29_code 49 = .ok (.bipush 9, 2) := by decide +kernel
theorem d_p15m29_51 : decode prog_15_method_29_code 51 = .ok (.iastore, 1) := by decide +kernel
theorem d_p15m29_52 : decode prog_15_method_29_code 52 = .ok (.iload_n 1, 1) := by decide +kernel
theorem d_p15m29_53 : decode prog_15_method_29_code 53 = .ok (.ireturn, 1) := by decide +kernel
abbrev y_Mod_isInterface : MethodName := ⟨"PolicyDeskModel", "isInterface", "()Z"⟩
theorem ok_Mod_isInterface : pd_ok y_Mod_isInterface prog_15_method_29_code 2 (some .boolean) 0 := ⟨mT_1331, mT_21, by decide, by decide +kernel⟩
abbrev rm_Mod_isInterface : Room := { frames := 1, cells := 0, slots := 0, locals := 25 }
set_option maxHeartbeats 4000000 in
set_option maxRecDepth 100000 in
theorem c_Mod_isInterface (l : Launch) (G : pd_G) (h : pd_H) {y : Nat} {ad : Nat → Nat} {fv : Nat → Nat → Int32} {iv : Nat → Int32} {tl : Int64} {cs : List Nat} {nw : Nat} {sA eA : Nat → Nat} (hMO : pd_MO G h y ad fv iv tl) (hL : gm_L fv iv cs) (hW : gm_W fv cs nw sA eA) (hn0 : 0 < nw) (hsa : sA 0 = 0) : pd_M l y_Mod_isInterface prog_15_method_29_code 2 (some .boolean) rm_Mod_isInterface G h [.ref y] pd_vb (fun r h1 => r = (decide (eA 0 = 9) && (decide (cs.getD 8 0 = 101) && gm_is cs 0 8 7161117524010233449 8)) ∧ pd_kx [32] h h1 ∧ pd_MO G h1 y ad fv iv tl) := by
  refine pd_M.of (by decide) (Nat.le_of_ble_eq_true rfl) ?_
  intro p e s m below meth c X hmn w ls hl
  have hx := X.1
  have hb := X.2.1
  have hl : lv_has ls 2 [(0, .ref y)] := hl
  have hz_y := hMO.2.1
  have hy0 : h y = some (20, .inr (10, [.ref (ad 0), .ref (ad 1), .ref (ad 2), .int (iv 3), .int (iv 4), .int (iv 5), .ref (ad 6), .ref (ad 7), .ref (ad 8), .ref (ad 9), .ref (ad 10), .ref (ad 11), .int (iv 12), .ref (ad 13), .ref (ad 14), .ref (ad 15), .ref (ad 16), .ref (ad 17), .ref (ad 18), .ref (ad 19), .int (iv 20), .ref (ad 21), .ref (ad 22), .ref (ad 23), .ref (ad 24), .ref (ad 25), .ref (ad 26), .ref (ad 27), .ref (ad 28), .int (iv 29), .ref (ad 30), .ref (ad 31), .int (iv 32), .int (iv 33), .int (iv 34), .int (iv 35), .long tl, .int (iv 37), .int (iv 38), .int (iv 39), .int (iv 40), .ref (ad 41), .ref (ad 42), .int (iv 43)])) := hMO.1
  have ha0 : h (ad 0) = some (30, .inl (.int, 60, .inl (fv 0))) := (hMO.2.2 0 (by decide)).1
  have ha2 : h (ad 2) = some (32, .inl (.int, 40, .inl (fv 2))) := (hMO.2.2 2 (by decide)).1
  obtain ⟨hiv3, hln, hl60, hlc⟩ := id hL
  have hw31 := hW.1
  have hwl0 := (hW.2 0 hn0).2.2
  refine lv_aload_n hx hb d_p15m29_0 rfl (lv_at hl 0 rfl) ?_
  refine pd_get X w hy0 rfl 2 (by decide) mT_1141 rfl rfl d_p15m29_1 ?_
  refine lv_iconst (v := nI 0) hx hb d_p15m29_4 (by decide) ?_
  refine pd_iald X w ha2 (by omega) (by omega) d_p15m29_5 ?_
  refine pd_top (v' := .int (nI (eA 0))) (congrArg Value.int (hW.2 0 (by omega)).2.1) ?_
  refine lv_bipush (v := nI 9) hx hb d_p15m29_6 (by decide) ?_
  refine pd_jne (tgt := 23) hx hb d_p15m29_8 (by decide) (by omega) (by omega) (fun q1 => ?_) (fun q1 => ?_)
  · -- taken: 23
    refine lv_iconst (v := nI 0) hx hb d_p15m29_23 (by decide) ?_
    refine W.eq (g2 := F0 m 24 ls [.int (pd_b false)]) rfl ?_
    exact pd_zret (v := false) X w ⟨by rw [decide_eq_false (by omega)]; rfl, pd_kx.rf, hMO⟩ (by decide) (by decide) d_p15m29_24
  · -- not taken: 11
    refine lv_aload_n hx hb d_p15m29_11 rfl (lv_at hl 0 rfl) ?_
    refine pd_get X w hy0 rfl 0 (by decide) mT_1139 rfl rfl d_p15m29_12 ?_
    refine lv_bipush (v := nI 8) hx hb d_p15m29_15 (by decide) ?_
    refine pd_iald X w ha0 (by omega) (by omega) d_p15m29_17 ?_
    refine pd_top (v' := .int (nI (cs.getD 8 0))) (congrArg Value.int (hln _ (by omega))) ?_
    have := tx_lt hlc 8
    refine lv_bipush (v := nI 101) hx hb d_p15m29_18 (by decide) ?_
    refine pd_jeq (tgt := 25) hx hb d_p15m29_20 (by decide) (by omega) (by omega) (fun q2 => ?_) (fun q2 => ?_)
    · -- taken: 25
      have h09 : eA 0 = 9 := by omega
      refine lv_aload_n hx hb d_p15m29_25 rfl (lv_at hl 0 rfl) ?_
      refine pd_get X w hy0 rfl 2 (by decide) mT_1141 rfl rfl d_p15m29_26 ?_
      refine lv_iconst (v := nI 0) hx hb d_p15m29_29 (by decide) ?_
      refine lv_bipush (v := nI 8) hx hb d_p15m29_30 (by decide) ?_
      refine pd_iast X w ha2 (hMO.2.2 2 (by decide)).2 (by omega) (by omega) d_p15m29_32 (fun H locs w => ?_)
      have w : pd_w G s H locs (pd_up h (ad 2) (32, .inl (.int, 40, .inl (upd (fv 2) 0 (nI 8))))) := w
      obtain ⟨h3, u6⟩ : ∃ z, z = pd_up h (ad 2) (32, .inl (.int, 40, .inl (upd (fv 2) 0 (nI 8)))) := ⟨_, rfl⟩
      rw [← u6] at w
      have k4 : pd_kq (ad 2) h h3 := by rw [u6]; exact pd_up_kq
      have f5 : h3 (ad 2) = some (32, .inl (.int, 40, .inl (upd (fv 2) 0 (nI 8)))) := by rw [u6]; exact pd_up_s _ _ _
      have f7 := k4 _ _ (pd_ne hy0 ha2 (by simp)) hy0
      have f8 := k4 _ _ (pd_ne ha0 ha2 (by simp)) ha0
      refine lv_aload_n hx hb d_p15m29_33 rfl (lv_at hl 0 rfl) ?_
      refine lv_iconst (v := nI 0) hx hb d_p15m29_34 (by decide) ?_
      refine lv_ldc2 (v := 7161117524010233449) hx hb X.2.2.2.2.1 (X.2.2.2.2.2.1 _ mT_1332) d_p15m29_35 ?_
      refine lv_bipush (v := nI 8) hx hb d_p15m29_38 (by decide) ?_
      have mo9 : pd_MO G h3 y ad (pd_fu fv 2 (upd (fv 2) 0 (nI 8))) iv tl := pd_MO.of (ts := [32]) hMO (pd_kq.kx (k4) ha2) f7 (fun j hj => if e2 : j = 2 then by subst e2; exact Or.inl f5 else Or.inr ⟨fun z => by first | (simp at z; done) | (simp at z; omega), by rw [pd_fu_n e2]⟩)
      refine pd_cV (a := y) (As := [.int (nI 0), .long 7161117524010233449, .int (nI 8)]) (rest := []) X w f7 rfl (c_Mod_is l G h3 (cs := cs) (nw := nw) (sA := sA) (eA := pd_fu eA 0 8) (i0 := 0) (nn := 8) (ad := ad) (fv := pd_fu fv 2 (upd (fv 2) 0 (nI 8))) (iv := iv) (tl := tl) mo9 hL (gm_W_e0 hW hn0 hsa h09) (by omega) (by omega)) ok_Mod_is ⟨mT_1299, sT_15⟩ mT_1297 ⟨by decide, by decide⟩ rfl hl.1 rfl (Nat.le_of_ble_eq_true rfl) d_p15m29_40 ⟨by decide, by decide⟩ (fun r10 h11 H locs hp12 w => ?_)
      refine W.widen (k := 0) (n := 0) (by decide) (by decide) ?_
      obtain ⟨e13, rfl⟩ := hp12
      refine lv_istore_n (lv' := [(1, .int (pd_b r10)), (0, .ref y)]) hx hb d_p15m29_43 rfl hl (by decide) rfl (fun ls hl => ?_)
      refine lv_aload_n hx hb d_p15m29_44 rfl (lv_at hl 1 rfl) ?_
      refine pd_get X w f7 rfl 2 (by decide) mT_1141 rfl rfl d_p15m29_45 ?_
      refine lv_iconst (v := nI 0) hx hb d_p15m29_48 (by decide) ?_
      refine lv_bipush (v := nI 9) hx hb d_p15m29_49 (by decide) ?_
      refine pd_iast X w f5 (hMO.2.2 2 (by decide)).2 (by omega) (by omega) d_p15m29_51 (fun H locs w => ?_)
      have w : pd_w G s H locs (pd_up h3 (ad 2) (32, .inl (.int, 40, .inl (upd (upd (fv 2) 0 (nI 8)) 0 (nI 9))))) := w
      obtain ⟨h14, u17⟩ : ∃ z, z = pd_up h3 (ad 2) (32, .inl (.int, 40, .inl (upd (upd (fv 2) 0 (nI 8)) 0 (nI 9)))) := ⟨_, rfl⟩
      rw [← u17] at w
      have k15 : pd_kq (ad 2) h3 h14 := by rw [u17]; exact pd_up_kq
      have f16 : h14 (ad 2) = some (32, .inl (.int, 40, .inl (upd (upd (fv 2) 0 (nI 8)) 0 (nI 9)))) := by rw [u17]; exact pd_up_s _ _ _
      have f18 := k15 _ _ (pd_ne f7 f5 (by simp)) f7
      have f19 := k15 _ _ (pd_ne f8 f5 (by simp)) f8
      refine lv_iload_n hx hb d_p15m29_52 rfl (lv_at hl 0 rfl) ?_
      have mo20 : pd_MO G h14 y ad (pd_fu fv 2 (upd (upd (fv 2) 0 (nI 8)) 0 (nI 9))) iv tl := pd_MO.of (ts := [32]) hMO (pd_kx.tr (pd_kq.kx (k4) ha2) (pd_kq.kx (k15) f5)) f18 (fun j hj => if e2 : j = 2 then by subst e2; exact Or.inl f16 else Or.inr ⟨fun z => by first | (simp at z; done) | (simp at z; omega), by rw [pd_fu_n e2]⟩)
      exact pd_zret (v := r10) X w ⟨by rw [decide_eq_true (p := eA 0 = 9) (by omega), decide_eq_true (p := cs.getD 8 0 = 101) (by omega), Bool.true_and, Bool.true_and, e13, hsa]; rfl, pd_kx.tr (pd_kq.kx (k4) ha2) (pd_kq.kx (k15) f5), (pd_MO.ext (mo20) (fun jj hjj => by by_cases e9 : jj = 2; subst e9; exact (upd_back (by rw [(hW.2 0 hn0).2.1, h09])).symm.trans rfl; exact (pd_fu_n e9).symm) rfl)⟩ (by decide) (by decide) d_p15m29_53
    · -- not taken: 23
      refine lv_iconst (v := nI 0) hx hb d_p15m29_23 (by decide) ?_
      refine W.eq (g2 := F0 m 24 ls [.int (pd_b false)]) rfl ?_
      exact pd_zret (v := false) X w ⟨by rw [decide_eq_false (p := cs.getD 8 0 = 101) (by omega), Bool.false_and, Bool.and_false], pd_kx.rf, hMO⟩ (by decide) (by decide) d_p15m29_24
abbrev y_Mod_addFN : MethodName := ⟨"PolicyDeskModel", "add", "(IZ)I"⟩
theorem ok_Mod_addFN : pd_ok y_Mod_addFN prog_15_method_31_code 9 (some .int) 2 := ⟨mT_1337, mT_21, by decide, by decide +kernel⟩
abbrev rm_Mod_addFN : Room := { frames := 6, cells := 0, slots := 0, locals := 134 }
set_option maxHeartbeats 4000000 in
set_option maxRecDepth 100000 in
theorem c_Mod_addFN (l : Launch) (G : pd_G) (h : pd_H) {y : Nat} {ad : Nat → Nat} {fv : Nat → Nat → Int32} {iv : Nat → Int32} {tl : Int64} {nw : Nat} (hMO : pd_MO G h y ad fv iv tl) (hw31 : nw ≤ 31) (hno : ¬ (3 ≤ nw ∧ nw ≤ 4)) : pd_M l y_Mod_addFN prog_15_method_31_code 9 (some .int) rm_Mod_addFN G h [.ref y, .int (nI nw), .int (nI 0)] Value.int (fun r h1 => r = -1 ∧ h = h1) := by
  refine pd_M.of (by decide) (Nat.le_of_ble_eq_true rfl) ?_
  intro p e s m below meth c X hmn w ls hl
  have hx := X.1
  have hb := X.2.1
  have hl : lv_has ls 9 [(0, .ref y), (1, .int (nI nw)), (2, .int (nI 0))] := hl
  have hz_y := hMO.2.1
  have hy0 : h y = some (20, .inr (10, [.ref (ad 0), .ref (ad 1), .ref (ad 2), .int (iv 3), .int (iv 4), .int (iv 5), .ref (ad 6), .ref (ad 7), .ref (ad 8), .ref (ad 9), .ref (ad 10), .ref (ad 11), .int (iv 12), .ref (ad 13), .ref (ad 14), .ref (ad 15), .ref (ad 16), .ref (ad 17), .ref (ad 18), .ref (ad 19), .int (iv 20), .ref (ad 21), .ref (ad 22), .ref (ad 23), .ref (ad 24), .ref (ad 25), .ref (ad 26), .ref (ad 27), .ref (ad 28), .int (iv 29), .ref (ad 30), .ref (ad 31), .int (iv 32), .int (iv 33), .int (iv 34), .int (iv 35), .long tl, .int (iv 37), .int (iv 38), .int (iv 39), .int (iv 40), .ref (ad 41), .ref (ad 42), .int (iv 43)])) := hMO.1
  refine lv_iload_n hx hb d_p15m31_0 rfl (lv_at hl 1 rfl) ?_
  refine lv_iconst (v := nI 3) hx hb d_p15m31_1 (by decide) ?_
  refine lv_iconst (v := nI 4) hx hb d_p15m31_2 (by decide) ?_
  refine pd_cS (As := [.int (nI nw), .int (nI 3), .int (nI 4)]) (rest := []) X w (c_Mod_in l G h (by omega) (by omega) (by omega)) ok_Mod_in mT_1278 mT_1277 ⟨by decide, by decide⟩ rfl hl.1 rfl (Nat.le_of_ble_eq_true rfl) d_p15m31_3 ⟨by decide, by decide⟩ (fun r1 h2 H locs hp3 w => ?_)
  refine W.widen (k := 0) (n := 0) (by decide) (by decide) ?_
  obtain ⟨e4, rfl⟩ := hp3
  refine pd_beq (tgt := 40) hx hb d_p15m31_6 (by decide) (fun q5 => ?_) (fun q5 => ?_)
  · -- taken: 40
    refine lv_iconst (v := -1) hx hb d_p15m31_40 (by decide) ?_
    exact pd_iret (v := (-1)) X w ⟨rfl, rfl⟩ (by decide) (by decide) d_p15m31_41
  · -- not taken: 9
    exact absurd (of_decide_eq_true (e4.symm.trans q5)) hno
abbrev y_Mod_addMN : MethodName := ⟨"PolicyDeskModel", "add", "(IZ)I"⟩
theorem ok_Mod_addMN : pd_ok y_Mod_addMN prog_15_method_31_code 9 (some .int) 2 := ⟨mT_1337, mT_21, by decide, by decide +kernel⟩
abbrev rm_Mod_addMN : Room := { frames := 6, cells := 0, slots := 0, locals := 136 }
set_option maxHeartbeats 4000000 in
set_option maxRecDepth 100000 in
theorem c_Mod_addMN (l : Launch) (G : pd_G) (h : pd_H) {y : Nat} {ad : Nat → Nat} {fv : Nat → Nat → Int32} {iv : Nat → Int32} {tl : Int64} {nw : Nat} (hMO : pd_MO G h y ad fv iv tl) (hw31 : nw ≤ 31) (hno : ¬ (3 ≤ nw ∧ nw ≤ 4)) : pd_M l y_Mod_addMN prog_15_method_31_code 9 (some .int) rm_Mod_addMN G h [.ref y, .int (nI nw), .int (nI 1)] Value.int (fun r h1 => r = -1 ∧ h = h1) := by
  refine pd_M.of (by decide) (Nat.le_of_ble_eq_true rfl) ?_
  intro p e s m below meth c X hmn w ls hl
  have hx := X.1
  have hb := X.2.1
  have hl : lv_has ls 9 [(0, .ref y), (1, .int (nI nw)), (2, .int (nI 1))] := hl
  have hz_y := hMO.2.1
  have hy0 : h y = some (20, .inr (10, [.ref (ad 0), .ref (ad 1), .ref (ad 2), .int (iv 3), .int (iv 4), .int (iv 5), .ref (ad 6), .ref (ad 7), .ref (ad 8), .ref (ad 9), .ref (ad 10), .ref (ad 11), .int (iv 12), .ref (ad 13), .ref (ad 14), .ref (ad 15), .ref (ad 16), .ref (ad 17), .ref (ad 18), .ref (ad 19), .int (iv 20), .ref (ad 21), .ref (ad 22), .ref (ad 23), .ref (ad 24), .ref (ad 25), .ref (ad 26), .ref (ad 27), .ref (ad 28), .int (iv 29), .ref (ad 30), .ref (ad 31), .int (iv 32), .int (iv 33), .int (iv 34), .int (iv 35), .long tl, .int (iv 37), .int (iv 38), .int (iv 39), .int (iv 40), .ref (ad 41), .ref (ad 42), .int (iv 43)])) := hMO.1
  refine lv_iload_n hx hb d_p15m31_0 rfl (lv_at hl 1 rfl) ?_
  refine lv_iconst (v := nI 3) hx hb d_p15m31_1 (by decide) ?_
  refine lv_iconst (v := nI 4) hx hb d_p15m31_2 (by decide) ?_
  refine pd_cS (As := [.int (nI nw), .int (nI 3), .int (nI 4)]) (rest := []) X w (c_Mod_in l G h (by omega) (by omega) (by omega)) ok_Mod_in mT_1278 mT_1277 ⟨by decide, by decide⟩ rfl hl.1 rfl (Nat.le_of_ble_eq_true rfl) d_p15m31_3 ⟨by decide, by decide⟩ (fun r1 h2 H locs hp3 w => ?_)
  refine W.widen (k := 0) (n := 0) (by decide) (by decide) ?_
  obtain ⟨e4, rfl⟩ := hp3
  refine pd_beq (tgt := 40) hx hb d_p15m31_6 (by decide) (fun q5 => ?_) (fun q5 => ?_)
  · -- taken: 40
    refine lv_iconst (v := -1) hx hb d_p15m31_40 (by decide) ?_
    exact pd_iret (v := (-1)) X w ⟨rfl, rfl⟩ (by decide) (by decide) d_p15m31_41
  · -- not taken: 9
    exact absurd (of_decide_eq_true (e4.symm.trans q5)) hno
